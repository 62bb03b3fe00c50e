/** Speeches that are said to an object that has a program and an OUT, and what is then seen. */
final class Says {
    private Says() {
    }

    static void fine(String text) {
        due(text, 0, 0);
    }

    /** With an error OUT stays, else it is the program's text; the loaded program stays with both. */
    static void due(String text, int error, int place) {
        String what = "say " + Checks.shown(text).replace('\n', '|');
        House x = new House();
        Checks.due("load IDEN", x.load(Bits.program("7")), 0);
        Checks.due("write IDEN", x.write(), 1);
        x.put(text);
        Checks.due(what, x.say(), error);
        Checks.due("place of " + what, x.look(14), place);
        Checks.due("tape behind " + what, x.look(7), 0);
        if (error != 0) {
            Checks.due("OUT behind " + what, x.look(8), 1);
            Checks.due("OUT's byte behind " + what, x.out(0), 0x1c);
        } else {
            byte[] want = new Oracle().say(Checks.bytes(text));
            Checks.due("OUT's size behind " + what, x.look(8), want.length);
            if (want.length / 8 + 8 < x.left()) {
                Checks.due("OUT behind " + what, x.outBytes(), want);
            }
        }
        Checks.due("look 9 behind " + what, x.look(9), 0);
        Checks.due("nodes behind " + what, x.look(0), 1);
        Checks.due("write behind " + what, x.write(), 1);
        Checks.due("written behind " + what, x.out(0), 0x1c);
    }

    /** The form is wrong at the place where the mark ^ stands, which is no part of the text. */
    static void wrong(String marked, int error) {
        int at = marked.indexOf('^');
        due(marked.substring(0, at) + marked.substring(at + 1), error, at);
    }

    /** Both speeches tell the same program. */
    static void same(String one, String two) {
        House x = new House();
        Checks.due("say " + Checks.shown(one), x.say(one), 0);
        byte[] want = x.outBytes();
        Checks.due("say " + Checks.shown(two), x.say(two), 0);
        Checks.due("OUT of " + Checks.shown(two), x.outBytes(), want);
    }

    /** The program's nodes, as many of them as the speech leaves. */
    static void nodes(String text, int count) {
        Checks.due("nodes of " + Checks.shown(text), House.of(text).look(0), count);
    }
}
