/** Halls in states at which calls are refused. */
final class Halls {
    private Halls() {
    }

    /** Something of all there is: keys are down, strokes and signs are typed. */
    static void rich(Stenohall x) {
        x.rule('y');
        x.rule('s');
        Due.words(x, "cat", "crys");
        Due.entry(x, 0, "cry", 1);
        Due.entry(x, 1, "^s", 2);
        Due.entry(x, 2, "b-ox.", 1, 2);
        Due.entry(x, 3, "a|b", 3);
        Due.type(x, "try", 1);
        x.alternative(0, 's');
        Due.type(x, "ry", 7);
        x.contract(40);
        x.wipe();
        x.sink(1);
        x.stroke(1);
        x.tick();
        x.sink(0);
        Due.strokes(x, 2, 3, 9, 1, 3);
        x.tick();
        x.undo();
        x.tick();
        x.paper(12, 3);
        x.turn(1, false);
        x.down(4);
        x.down(6);
        x.up(4);
        Due.type(x, "cat", 1, 2);
    }

    /** The mode 'f', the key 1 down, a stroke made of it and 0, and two more told. */
    static void byFirst(Stenohall x) {
        x.mode('f');
        x.down(0);
        x.down(1);
        x.up(0);
        Due.strokes(x, 5, 6);
    }

    /** The mode 'f', the key 1 down since the last stroke, which was made of it and 0, and the key 2 since then. */
    static void newlyDown(Stenohall x) {
        x.mode('f');
        x.down(0);
        x.down(1);
        x.up(0);
        x.down(2);
    }

    static void strokes(Stenohall x, int count) {
        for (int i = 1; i <= count; i++) {
            x.stroke(i);
        }
    }

    /** 100 strokes, and the key 0 is down. */
    static void full(Stenohall x) {
        strokes(x, 100);
        x.down(0);
    }

    static void fullByFirst(Stenohall x) {
        strokes(x, 100);
        x.mode('f');
        x.down(1);
        x.down(0);
    }

    /** The outlines 1 to 40, each with the content a. */
    static void fortyEntries(Stenohall x, int layer) {
        for (int i = 1; i <= 40; i++) {
            Due.entry(x, layer, "a", i);
        }
    }

    /** The outline 1 has three alternatives, by a, b and c; one more is typed. */
    static void threeAlternatives(Stenohall x) {
        Due.entry(x, 0, "z", 1);
        for (String letter : new String[] {"a", "b", "c"}) {
            Due.type(x, "z" + letter, 1);
            x.alternative(0, letter.charAt(0));
        }
        Due.type(x, "zd", 1);
    }

    /** A miss, one of four strokes in layer 3, and one of two in layer 0. */
    static void threeTranslations(Stenohall x) {
        Due.entry(x, 3, "abc", 1, 2, 3, 4);
        Due.entry(x, 0, "d", 5, 6);
        Due.strokes(x, 9, 1, 2, 3, 4, 5, 6);
    }

    /** The words aa, ba, ca and so on. */
    static void words(Stenohall x, int count) {
        for (int i = 0; i < count; i++) {
            Due.words(x, "" + (char) ('a' + i % 26) + (char) ('a' + i / 26));
        }
    }

    /** The contractions aa, ba, ca and so on, for the cells from 41 on. */
    static void contractions(Stenohall x, int count) {
        for (int i = 0; i < count; i++) {
            Due.type(x, (char) ('a' + i) + "a");
            x.contract(41 + i);
        }
    }
}
