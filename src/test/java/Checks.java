import java.nio.charset.StandardCharsets;
import java.util.Arrays;

/** What the tests share: calls with whole rows of bytes, and a count of answers that are not due. */
final class Checks {
    private static int wrong;
    private static int right;
    private static volatile String test = "";

    static {
        Thread guard = new Thread(Checks::endLate);
        guard.setDaemon(true);
        guard.start();
    }

    private Checks() {
    }

    /** A call that never ends is an answer that is not due, too. */
    private static void endLate() {
        try {
            Thread.sleep(200000);
        } catch (InterruptedException e) {
            return;
        }
        System.out.println(test + "does not end");
        Runtime.getRuntime().halt(1);
    }

    static void due(String what, long got, long want) {
        if (got == want) {
            right++;
        } else {
            wrong++;
            if (wrong < 100) {
                System.out.println(test + what + " answered " + got + ", due is " + want);
            }
        }
    }

    static void due(String what, String got, String want) {
        if (got.equals(want)) {
            right++;
        } else {
            wrong++;
            if (wrong < 100) {
                System.out.println(test + what + " is " + got + ", due is " + want);
            }
        }
    }

    static void due(String what, byte[] got, byte[] want) {
        if (Arrays.equals(got, want)) {
            right++;
        } else {
            wrong++;
            if (wrong < 100) {
                System.out.println(test + what + " answered " + show(got) + ", due is " + show(want));
            }
        }
    }

    private static String show(byte[] bytes) {
        StringBuilder s = new StringBuilder(bytes.length + " bytes: ");
        for (int i = 0; i < bytes.length && i < 200; i++) {
            int b = bytes[i] & 255;
            s.append(b > 32 && b < 127 ? "" + (char) b : "<" + b + ">");
        }
        return s.toString();
    }

    static void due(String what, boolean holds) {
        due(what, holds ? 1 : 0, 1);
    }

    interface Call {
        long answer();
    }

    /** The call throws just this exception. */
    static void dueThrows(String what, Class<? extends RuntimeException> kind, Call call) {
        String got;
        try {
            got = "" + call.answer();
        } catch (RuntimeException e) {
            if (e.getClass() == kind) {
                right++;
                return;
            }
            got = e.getClass().getName();
        }
        wrong++;
        System.out.println(test + what + " gave " + got + ", due is " + kind.getName());
    }

    /** The call throws just this exception, and nothing that can be looked at has changed. */
    static void dueRefused(String what, House x, Class<? extends RuntimeException> kind, Call call) {
        String before = x.state();
        dueThrows(what, kind, call);
        due("state behind " + what, x.state(), before);
    }

    /** One sentence of the document, by its name; what it throws is wrong, but ends this test alone. */
    static void test(String name, Runnable body) {
        test = name + ": ";
        try {
            body.run();
        } catch (RuntimeException | StackOverflowError e) {
            wrong++;
            System.out.println(test + "threw " + e + at(e));
        }
        test = "";
    }

    /** Where in a test it is. */
    static String at(Throwable e) {
        StackTraceElement[] trace = e.getStackTrace();
        for (StackTraceElement t : trace) {
            if (t.getClassName().endsWith("Test")) {
                return " at " + t;
            }
        }
        return "";
    }

    static String shown(String text) {
        return text.length() > 120 ? text.substring(0, 120) + ".." : text;
    }

    static byte[] bytes(String text) {
        return text.getBytes(StandardCharsets.ISO_8859_1);
    }

    static void feed(House x, byte[] bytes) {
        x.wipe();
        for (int i = 0; i < bytes.length; i += 8) {
            int n = Math.min(8, bytes.length - i);
            long v = 0;
            for (int k = n - 1; k >= 0; k--) {
                v = v << 8 | bytes[i + k] & 255;
            }
            x.feed(n, v);
        }
    }

    static byte[] out(House x) {
        byte[] bytes = new byte[x.look(8)];
        for (int i = 0; i < bytes.length; i += 8) {
            long v = x.out(i);
            for (int k = 0; k < 8 && i + k < bytes.length; k++) {
                bytes[i + k] = (byte) (v >>> 8 * k);
            }
        }
        return bytes;
    }

    static int say(House x, String text) {
        feed(x, bytes(text));
        return x.say();
    }

    static int load(House x, byte[] bytes) {
        feed(x, bytes);
        return x.load();
    }

    /** Says and loads: what load answers. */
    static int build(House x, String text) {
        due("say " + text, say(x, text), 0);
        x.again();
        return x.load();
    }

    /** A row of bits, filled up with 0s. */
    static byte[] bits(String bits) {
        return Oracle.bytesOf(bits);
    }

    static void end() {
        System.out.println(right + " answers as due, " + wrong + " not");
        if (wrong != 0) {
            System.exit(1);
        }
    }
}
