import java.util.NoSuchElementException;

/** Promise 1: no program; OUT is empty; and the tape, the looks and the calls that a new object has. */
public final class Promise01NewObjectTest {
    private Promise01NewObjectTest() {
    }

    public static void main(String[] args) {
        Checks.test("promise 1: no program", Promise01NewObjectTest::noProgram);
        Checks.test("promise 1: OUT is empty", Promise01NewObjectTest::outIsEmpty);
        Checks.test("promise 1: the tape has no bytes at first", Promise01NewObjectTest::tapeIsEmpty);
        Checks.test("promise 1: what is looked at is 0 before", Promise01NewObjectTest::looksAreZero);
        Checks.test("promise 1: a refused call leaves it new", Promise01NewObjectTest::refusedCalls);
        Checks.test("promise 1: objects have nothing in common", Promise01NewObjectTest::nothingInCommon);
        Checks.test("promise 1: the 512th call answers", Promise01NewObjectTest::lastCall);
        Checks.test("promise 1: 512 calls that each use much", Promise01NewObjectTest::dearCalls);
        Checks.end();
    }

    private static void noProgram() {
        House x = new House();
        Checks.due("nodes", x.look(0), 0);
        Checks.dueThrows("run", IllegalStateException.class, () -> x.run(1, 1, false));
        Checks.dueThrows("run defined", IllegalStateException.class, () -> x.run(1, 1, true));
        Checks.dueThrows("speak", IllegalStateException.class, x::speak);
        Checks.dueThrows("write", IllegalStateException.class, x::write);
        Checks.dueThrows("node", NoSuchElementException.class, () -> x.node(0, 0));
        Checks.dueThrows("root", NoSuchElementException.class, () -> x.root(0, 0));
        Checks.dueThrows("typeRoot", NoSuchElementException.class, () -> x.typeRoot(0, false, 0));
        Checks.dueThrows("type", NoSuchElementException.class, () -> x.type(0, true));
        Checks.dueThrows("value", NoSuchElementException.class, () -> x.value(0, true));
        Checks.dueThrows("worth", NoSuchElementException.class, () -> x.worth(0, true));
    }

    private static void outIsEmpty() {
        House x = new House();
        Checks.due("OUT", x.look(8), 0);
        Checks.dueThrows("out", NoSuchElementException.class, () -> x.out(0));
        Checks.due("again", x.again(), 0);
        Checks.due("tape", x.look(7), 0);
    }

    private static void tapeIsEmpty() {
        House x = new House();
        Checks.due("tape", x.look(7), 0);
        Checks.due("wipe", x.wipe(), 0);
        Checks.due("feed", x.feed(1, 32), 1);
        Checks.due("load an empty tape", new House().load(), 1);
        House y = new House();
        Checks.due("say an empty tape", y.say(), 1);
        Checks.due("place", y.look(14), 0);
    }

    private static void looksAreZero() {
        House x = new House();
        for (int i = 0; i <= 14; i++) {
            Checks.due("look " + i, x.look(i), 0);
        }
    }

    private static void refusedCalls() {
        House x = new House();
        Checks.dueRefused("run", x, IllegalStateException.class, () -> x.run(1, 1, false));
        Checks.dueRefused("run", x, IllegalArgumentException.class, () -> x.run(0, 1, false));
        Checks.dueRefused("speak", x, IllegalStateException.class, x::speak);
        Checks.dueRefused("write", x, IllegalStateException.class, x::write);
        Checks.dueRefused("node", x, NoSuchElementException.class, () -> x.node(0, 0));
        Checks.dueRefused("root", x, NoSuchElementException.class, () -> x.root(0, 0));
        Checks.dueRefused("typeRoot", x, NoSuchElementException.class, () -> x.typeRoot(0, true, 0));
        Checks.dueRefused("type", x, NoSuchElementException.class, () -> x.type(0, true));
        Checks.dueRefused("out", x, NoSuchElementException.class, () -> x.out(0));
        Checks.dueRefused("look", x, IllegalArgumentException.class, () -> x.look(15));
        Checks.dueRefused("feed", x, IllegalArgumentException.class, () -> x.feed(0, 1));
    }

    private static void nothingInCommon() {
        House x = new House();
        House y = new House();
        x.build("a = comp witness 00001111 jet 92");
        Checks.due("run", x.run(100, 100, false), 1);
        x.feed(8, -1);
        for (int i = 0; i <= 14; i++) {
            Checks.due("look " + i + " of another one", y.look(i), 0);
            Checks.due("look " + i + " of a later one", new House().look(i), 0);
        }
        y.build("a = unit");
        Checks.due("nodes of the first", x.look(0), 3);
        Checks.due("OUT of the first", x.out(0), 0xf0);
        Checks.due("tape of the first", x.wipe(), 8);
        Checks.due("write of the second", y.write(), 1);
        Checks.due("root of the second", y.root(0, 0), Oracle.leaf(8)[0] & 0xffffffffL);
        Checks.due("run of the first", x.run(100, 100, true), 1);
        Checks.due("runs of the second", y.look(10), 0);
    }

    private static void lastCall() {
        House x = House.of("a = jet 92");
        while (x.left() > 6) {
            x.look(0);
        }
        Checks.due("feed", x.feed(1, 0x55), 1);
        Checks.due("run", x.run(17, 16, false), 1);
        Checks.due("steps", x.look(13), 17);
        Checks.due("again", x.again(), 1);
        Checks.due("run", x.run(17, 16, true), 1);
        Checks.due("the 512th", x.out(0), 0x55);
        Checks.due("none is left", x.left(), 0);
    }

    /** Speeches of a thousand nodes, again and again. */
    private static void dearCalls() {
        StringBuilder s = new StringBuilder("a = unit ");
        String before = "a";
        for (int i = 0; i < 9; i++) {
            s.append("a").append(i).append(" = case ").append(before).append(" new ").append(before).append(" ");
            before = "a" + i;
        }
        House x = new House();
        int rounds = 0;
        while (x.left() > 40) {
            Checks.due("say", x.say(s.toString()), 0);
            int size = x.again();
            Checks.due("load", x.load(), 0);
            Checks.due("write", x.write(), size);
            Checks.due("copies have become one", x.look(0), 10);
            rounds++;
        }
        Checks.due("some rounds", rounds > 5);
        Checks.due("root", x.root(0, 0), Oracle.leaf(8)[0] & 0xffffffffL);
        Checks.due("at last", x.say(), 1);
    }
}
