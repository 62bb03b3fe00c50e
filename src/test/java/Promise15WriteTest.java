/** Promise 15: the bytes of the program that was loaded, as it was read. */
public final class Promise15WriteTest {
    private Promise15WriteTest() {
    }

    public static void main(String[] args) {
        Checks.test("promise 15: no program", Promise15WriteTest::noProgram);
        Checks.test("promise 15: as it was read", Promise15WriteTest::asRead);
        Checks.test("promise 15: the one that was loaded, not one that was said or refused", Promise15WriteTest::loaded);
        Checks.test("promise 15: 8192 bytes", Promise15WriteTest::longest);
        Checks.test("promise 15: nothing but OUT changes", Promise15WriteTest::nothingElse);
        Checks.end();
    }

    private static void noProgram() {
        House x = new House();
        Checks.dueThrows("write", IllegalStateException.class, x::write);
        x.say("a = unit");
        x.feed(3, 77);
        Checks.dueRefused("what is only said", x, IllegalStateException.class, x::write);
        x.load();
        Checks.dueRefused("what is refused", x, IllegalStateException.class, x::write);
        Checks.due("OUT stays", x.out(0), 32);
    }

    private static void asRead() {
        for (String bits : new String[] {Bits.program("7"), Bits.program("8", "11 1", "1 2 1"),
            Bits.witnessed("10000001", "10", "12 92", "0 2 1"), Bits.program("12 167"), Bits.program(Rows.pairNodes(400))}) {
            House x = House.ofBits(bits);
            Checks.due("write", x.write(), (bits.length() + 7) / 8);
            Checks.due("OUT", x.look(8), (bits.length() + 7) / 8);
            Checks.due("bytes", x.outBytes(), Checks.bits(bits));
            Checks.due("write once more", x.write(), (bits.length() + 7) / 8);
        }
    }

    private static void loaded() {
        House x = House.ofBits(Bits.witnessed("10000001", "10", "12 92", "0 2 1"));
        byte[] want = Checks.bits(Bits.witnessed("10000001", "10", "12 92", "0 2 1"));
        Checks.due("say", x.say("a = pair unit iden"), 0);
        x.write();
        Checks.due("bytes", x.outBytes(), want);
        Checks.due("load", x.load(Bits.program("8", "8", "2 2 1")), 6);
        x.write();
        Checks.due("bytes", x.outBytes(), want);
        Checks.due("load", x.load(Bits.witnessed("1000000", "10", "12 92", "0 2 1")), 10);
        x.write();
        Checks.due("bytes", x.outBytes(), want);
        x.feed(8, -1);
        Checks.due("run", x.run(100, 100, false), -4);
        x.write();
        Checks.due("bytes", x.outBytes(), want);
        Checks.due("load", x.load(Bits.program("8")), 0);
        Checks.due("write", x.write(), 1);
        Checks.due("bytes", x.out(0), 32);
    }

    private static void longest() {
        String speech = Rows.speechOf(8192);
        byte[] want = new Oracle().say(Checks.bytes(speech));
        House x = new House();
        x.say(speech);
        x.again();
        Checks.due("load", x.load(), 0);
        x.say("a = unit");
        Checks.due("OUT", x.look(8), 1);
        Checks.due("write", x.write(), 8192);
        for (int k = 0; k < 8192 && x.left() > 4; k += 136) {
            long eight = 0;
            for (int i = 7; i >= 0; i--) {
                eight = eight << 8 | (k + i < 8192 ? want[k + i] & 255 : 0);
            }
            Checks.due("OUT from " + k, x.out(k), eight);
        }
        Checks.due("the last byte", x.out(8191), want[8191] & 255);
    }

    private static void nothingElse() {
        House x = House.of("a = comp witness 00001111 jet 92");
        x.run(100, 100, false);
        x.say("a = b");
        x.load("1");
        x.feed(5, 77);
        String[] before = x.state().split(" ");
        Checks.due("write", x.write() > 1);
        String[] behind = x.state().split(" ");
        for (int i : new int[] {8, 15, 16}) {
            before[i] = behind[i];
        }
        Checks.due("state", String.join(" ", behind), String.join(" ", before));
    }
}
