/** Rows that are loaded into an object that has a program, and what is then seen. */
final class Loads {
    private Loads() {
    }

    static void due(String bits, int error) {
        due(Checks.bits(bits), error);
    }

    /** With an error the program that was there stays, else the new one is there; OUT stays. */
    static void due(byte[] bytes, int error) {
        String what = "load " + Checks.shown(Oracle.bitsOf(bytes));
        House x = new House();
        Checks.due("load IDEN", x.load(Bits.program("7")), 0);
        Checks.due("write IDEN", x.write(), 1);
        x.put(bytes);
        Checks.due(what, x.load(), error);
        Checks.due("look 9 of " + what, x.look(9), error);
        Checks.due("tape behind " + what, x.look(7), 0);
        Checks.due("OUT behind " + what, x.look(8), 1);
        Checks.due("OUT's byte behind " + what, x.out(0), 0x1c);
        if (error != 0) {
            Checks.due("nodes behind " + what, x.look(0), 1);
            Checks.due("code behind " + what, x.node(0, 0), 7);
            Checks.due("write behind " + what, x.write(), 1);
            Checks.due("written behind " + what, x.out(0), 0x1c);
        } else {
            Checks.due("write behind " + what, x.write(), bytes.length);
        }
    }
}
