/** Promises 9 to 16 and 25 to 28: what is typed, entries, layers and translations. */
public final class DictionaryTest {
    public static void main(String[] args) {
        chord();
        sign();
        entry();
        entryLimit();
        alternative();
        chosen();
        remove();
        turn();
        longest();
        undoing();
        undoingAnew();
        translations();
        Due.end();
    }

    private static void chord() {
        Stenohall x = new Stenohall();
        Due.fails("chord(0)", IllegalArgumentException.class, () -> x.chord(0));
        Due.fails("chord(65536)", IllegalArgumentException.class, () -> x.chord(65536));
        Due.is("chord", x.chord(65535), 1);
        Due.is("chord", x.chord(1), 2);
        Due.is("chord", x.chord(1), 3);
        Due.is("chord", x.chord(1), 4);
        Due.fails("chord, 4 typed", IllegalStateException.class, () -> x.chord(1));
        Due.fails("no chord, 4 typed", IllegalArgumentException.class, () -> x.chord(-1));
        Due.is("wipe", x.wipe(), 4);
        Due.is("wipe again", x.wipe(), 0);
        Due.is("chord", x.chord(1), 1);
        x.sign('a');
        x.sign('-');
        Due.is("wipe of both", x.wipe(), 3);
    }

    private static void sign() {
        Stenohall x = new Stenohall();
        int count = 0;
        for (char c : "^-<.,#|=az".toCharArray()) {
            count++;
            Due.is("sign " + c, x.sign(c), count);
        }
        for (char c : new char[] {'A', 'Z', '?', ' ', '`', '{', '0', 0, 127, 200, 65535, '\n'}) {
            Due.fails("sign " + (int) c, IllegalArgumentException.class, () -> x.sign(c));
        }
        Due.is("sign", x.sign('m'), 11);
        Due.is("sign", x.sign('m'), 12);
        Due.fails("sign, 12 typed", IllegalStateException.class, () -> x.sign('m'));
        Due.fails("no sign, 12 typed", IllegalArgumentException.class, () -> x.sign('M'));
        Due.is("wipe", x.wipe(), 12);
    }

    private static void entry() {
        Stenohall x = new Stenohall();
        Due.fails("entry(-1)", IndexOutOfBoundsException.class, () -> x.entry(-1));
        Due.fails("entry(4)", IndexOutOfBoundsException.class, () -> x.entry(4));
        Due.fails("entry, nothing typed", UnsupportedOperationException.class, () -> x.entry(0));
        x.chord(1);
        Due.fails("entry, no sign typed", UnsupportedOperationException.class, () -> x.entry(0));
        x.wipe();
        x.sign('a');
        Due.fails("entry, no stroke typed", UnsupportedOperationException.class, () -> x.entry(0));
        x.chord(1);
        Due.is("entry", x.entry(3), false);
        Due.is("typed is gone", x.wipe(), 0);
        Due.is("entries", x.entries(3), 1);
        Due.is("entries elsewhere", x.entries(0), 0);
        x.stroke(1);
        Due.is("text", Due.text(x), "a");
        Due.type(x, "b", 1);
        Due.is("entry again", x.entry(3), true);
        Due.is("entries", x.entries(3), 1);
        Due.is("translated anew", Due.text(x), "b");
        Due.type(x, "c", 1);
        Due.is("entry elsewhere", x.entry(0), false);
        Due.is("the greater layer counts", Due.text(x), "b");
        Due.type(x, "d", 1, 1);
        Due.is("a longer outline is another one", x.entry(3), false);
        Due.fails("entries(-1)", IndexOutOfBoundsException.class, () -> x.entries(-1));
        Due.fails("entries(4)", IndexOutOfBoundsException.class, () -> x.entries(4));
    }

    private static void entryLimit() {
        Stenohall x = new Stenohall();
        for (int i = 1; i <= 40; i++) {
            Due.entry(x, 2, "a", i);
        }
        Due.is("40 entries", x.entries(2), 40);
        Due.type(x, "b", 41);
        Due.fails("one more", IllegalStateException.class, () -> x.entry(2));
        Due.is("in another layer", x.entry(1), false);
        Due.type(x, "b", 40);
        Due.is("in place of one", x.entry(2), true);
        Due.type(x, "c", 1);
        Due.is("in place of the first", x.entry(2), true);
        Due.type(x, "b");
        Due.fails("too little typed comes first", UnsupportedOperationException.class, () -> x.entry(2));
        x.wipe();
        x.chord(7);
        Due.is("remove", x.remove(2), true);
        Due.type(x, "b", 41);
        Due.is("room again", x.entry(2), false);
        x.stroke(40);
        x.stroke(7);
        Due.is("text", Due.text(x), "b ??");
    }

    private static void alternative() {
        Stenohall x = new Stenohall();
        Due.fails("layer", IndexOutOfBoundsException.class, () -> x.alternative(4, 'A'));
        Due.fails("layer", IndexOutOfBoundsException.class, () -> x.alternative(-1, 'a'));
        Due.fails("letter", IllegalArgumentException.class, () -> x.alternative(0, 'A'));
        Due.fails("letter", IllegalArgumentException.class, () -> x.alternative(0, '{'));
        Due.fails("nothing typed", UnsupportedOperationException.class, () -> x.alternative(0, 'a'));
        Due.type(x, "on", 1);
        Due.fails("no such entry", UnsupportedOperationException.class, () -> x.alternative(0, 'a'));
        x.entry(0);
        x.chord(1);
        Due.fails("no sign", UnsupportedOperationException.class, () -> x.alternative(0, 'a'));
        x.sign('b');
        Due.fails("not in this layer", UnsupportedOperationException.class, () -> x.alternative(1, 'a'));
        Due.is("first", x.alternative(0, 'a'), 1);
        Due.is("typed is gone", x.wipe(), 0);
        Due.type(x, "c", 1);
        Due.is("the same letter again", x.alternative(0, 'a'), 2);
        Due.type(x, "=", 1);
        Due.is("third", x.alternative(0, 'z'), 3);
        Due.type(x, "d", 1);
        Due.fails("a fourth", IllegalStateException.class, () -> x.alternative(0, 'a'));
        Due.is("it stays typed", x.wipe(), 2);
        Due.entry(x, 0, "-axe", 2);
        Due.strokes(x, 1, 2);
        Due.is("the first that was told", Due.text(x), "b Axe");
        Due.entry(x, 0, ",zoo", 2);
        Due.is("'=' in an alternative writes nothing", Due.text(x), ",zoo");
        Due.is("nor does it undo", x.strokes(), 2);
        Due.entry(x, 0, "on", 1);
        Due.is("in its place it has none", Due.text(x), "on,zoo");
        Due.type(x, "e", 1);
        Due.is("none", x.alternative(0, 'z'), 1);
        Due.is("alternatives translate anew", Due.text(x), "e,zoo");
    }

    private static void chosen() {
        Stenohall x = new Stenohall();
        Due.fails("chosen of none", IndexOutOfBoundsException.class, () -> x.chosen(0));
        Due.entry(x, 0, "he", 1);
        Due.type(x, "she", 1);
        x.alternative(0, 's');
        Due.type(x, "it", 1);
        x.alternative(0, 'r');
        Due.entry(x, 0, "sat", 2);
        Due.entry(x, 0, "ran", 3);
        Due.entry(x, 0, "^|,", 4);
        Due.strokes(x, 1, 1);
        Due.is("by h none", Due.text(x), "he he");
        x.stroke(2);
        Due.is("settled by what comes later", Due.text(x), "he she sat");
        Due.is("chosen", x.chosen(0), 0);
        Due.is("chosen", x.chosen(1), 1);
        Due.is("chosen", x.chosen(2), 0);
        Due.strokes(x, 1, 3);
        Due.is("the second", x.chosen(3), 2);
        Due.strokes(x, 1, 4, 1, 9);
        Due.is("no letter behind", x.chosen(5), 0);
        Due.is("a miss behind", x.chosen(7), 0);
        Due.is("a miss", x.chosen(8), 0);
        Due.fails("chosen(9)", IndexOutOfBoundsException.class, () -> x.chosen(9));
        Due.fails("chosen(-1)", IndexOutOfBoundsException.class, () -> x.chosen(-1));
        Due.type(x, "rat", 2);
        x.alternative(0, 'r');
        Due.is("by the content without alternatives", x.chosen(1), 1);
    }

    private static void remove() {
        Stenohall x = new Stenohall();
        Due.fails("remove(4)", IndexOutOfBoundsException.class, () -> x.remove(4));
        Due.fails("remove(-1)", IndexOutOfBoundsException.class, () -> x.remove(-1));
        Due.is("remove of nothing", x.remove(0), false);
        Due.entry(x, 0, "a", 1);
        Due.entry(x, 0, "b", 2);
        Due.entry(x, 1, "c", 2);
        Due.strokes(x, 1, 2);
        Due.type(x, "zz", 3);
        Due.is("remove of none", x.remove(0), false);
        Due.is("typed is gone", x.wipe(), 0);
        Due.is("text", Due.text(x), "a c");
        Due.type(x, "z", 2);
        Due.is("remove", x.remove(1), true);
        Due.is("typed is gone", x.wipe(), 0);
        Due.is("the layer below counts", Due.text(x), "a b");
        x.chord(1);
        Due.is("remove", x.remove(0), true);
        Due.is("text", Due.text(x), "?? b");
        Due.is("entries", x.entries(0) * 10 + x.entries(1), 10);
        x.chord(1);
        x.chord(2);
        Due.is("no outline of both", x.remove(0), false);
    }

    private static void turn() {
        Stenohall x = new Stenohall();
        Due.fails("turn(4)", IndexOutOfBoundsException.class, () -> x.turn(4, true));
        Due.fails("turn(-1)", IndexOutOfBoundsException.class, () -> x.turn(-1, false));
        Due.entry(x, 0, "a", 1);
        Due.entry(x, 3, "b", 1);
        x.stroke(1);
        Due.is("turn off", x.turn(3, false), true);
        Due.is("text", Due.text(x), "a");
        Due.is("turn off again", x.turn(3, false), false);
        Due.is("turn off", x.turn(0, false), true);
        Due.is("text", Due.text(x), "??");
        Due.is("turn on", x.turn(3, true), false);
        Due.is("text", Due.text(x), "b");
        Due.is("entries stay", x.entries(0), 1);
    }

    private static void longest() {
        Stenohall x = new Stenohall();
        Due.entry(x, 0, "a", 1);
        Due.entry(x, 0, "b", 2);
        Due.entry(x, 3, "c", 1, 2);
        Due.entry(x, 0, "d", 1, 2, 3);
        Due.entry(x, 2, "e", 2, 3);
        Due.entry(x, 0, "f", 1, 2, 3, 4);
        Due.strokes(x, 1, 2);
        Due.is("two", Due.text(x), "c");
        x.stroke(3);
        Due.is("three, though another layer is greater", Due.text(x), "d");
        x.stroke(4);
        Due.is("four", Due.text(x), "f");
        Due.is("strokesOf", x.strokesOf(0), 4);
        x.stroke(5);
        Due.is("five", Due.text(x), "f ??");
        Due.strokes(x, 2, 3);
        Due.is("whole ones", Due.text(x), "f ?? e");
        Due.type(x, "", 1, 2, 3);
        x.remove(0);
        Due.is("a row of translations", Due.text(x), "f ?? e");
        Due.type(x, "", 1, 2, 3, 4);
        x.remove(0);
        Due.is("2 3 can't be taken out of 1 2", Due.text(x), "c ?? ?? ?? e");
        Stenohall y = new Stenohall();
        Due.entry(y, 0, "x", 7, 8);
        Due.strokes(y, 7, 8);
        Due.is("misses are taken too", Due.text(y), "x");
        Due.entry(y, 1, "y", 7, 8);
        Due.is("of several layers the greatest", y.layerOf(0), 1);
        Due.strokes(y, 7);
        Due.is("7 is a miss", y.layerOf(1), -1);
    }

    private static void undoing() {
        Stenohall x = new Stenohall();
        Due.entry(x, 0, "=", 1);
        Due.is("none ahead", x.stroke(1), 0);
        Due.strokes(x, 5, 6, 7);
        Due.is("the last one ahead", x.stroke(1), 2);
        Due.is("kept", Due.kept(x), "5 6");
        Due.entry(x, 0, "=", 6, 8);
        Due.is("all of the translation, and one ahead", x.stroke(8), 0);
        Due.entry(x, 0, "cat", 2, 3);
        Due.entry(x, 0, "dog", 2);
        Due.strokes(x, 2, 3);
        Due.is("two strokes", Due.text(x), "cat");
        x.stroke(1);
        Due.is("one stroke of it", Due.text(x), "dog");
        Due.entry(x, 0, "a=", 4);
        x.stroke(4);
        Due.is("elsewhere it writes nothing", Due.text(x), "dog a");
        Due.type(x, "b", 1);
        x.alternative(0, 'a');
        x.stroke(1);
        Due.is("by the entry's own content", Due.text(x), "dog");
        x.down(0);
        Due.is("up answers what it made", x.up(0), 1);
        Due.is("and it is undone", x.strokes(), 0);
        for (int i = 0; i < 100; i++) {
            x.stroke(9);
        }
        Due.fails("100 strokes", IllegalStateException.class, () -> x.stroke(1));
    }

    private static void undoingAnew() {
        Stenohall x = new Stenohall();
        Due.strokes(x, 1, 2, 9, 3, 9, 4);
        Due.entry(x, 0, "=", 9);
        Due.is("the strokes behind stay", Due.kept(x), "1 4");
        Due.entry(x, 0, "a", 9);
        Due.is("gone for good", Due.kept(x), "1 4");
        Due.strokes(x, 9, 9, 5);
        Due.entry(x, 2, "=", 9);
        Due.is("two of them", Due.kept(x), "5");
        x.turn(2, false);
        Due.strokes(x, 6, 9);
        Due.is("off", Due.kept(x), "5 6 9");
        x.turn(2, true);
        Due.is("on", Due.kept(x), "5");
        Due.entry(x, 3, "b", 9);
        x.stroke(9);
        x.chord(9);
        x.remove(3);
        Due.is("by one removed", Due.kept(x), "");
        Stenohall y = new Stenohall();
        for (int i = 0; i < 100; i++) {
            y.stroke(i % 2 == 0 ? 1 : 2);
        }
        Due.entry(y, 0, "=", 2);
        Due.is("all of them", y.strokes(), 0);
        Stenohall z = new Stenohall();
        Due.strokes(z, 3, 1, 9, 2);
        Due.entry(z, 0, "cat", 3, 2);
        Due.entry(z, 0, "=", 9);
        Due.is("those behind find those ahead", Due.text(z), "cat");
    }

    private static void translations() {
        Stenohall x = new Stenohall();
        Due.is("none", x.translations(), 0);
        Due.fails("strokesOf(0)", IndexOutOfBoundsException.class, () -> x.strokesOf(0));
        Due.fails("layerOf(0)", IndexOutOfBoundsException.class, () -> x.layerOf(0));
        Due.entry(x, 2, "a", 1, 2);
        Due.strokes(x, 1, 2, 3);
        Due.is("two", x.translations(), 2);
        Due.is("strokesOf", x.strokesOf(0) * 10 + x.strokesOf(1), 21);
        Due.is("layerOf", x.layerOf(0), 2);
        Due.is("layerOf a miss", x.layerOf(1), -1);
        Due.fails("strokesOf(2)", IndexOutOfBoundsException.class, () -> x.strokesOf(2));
        Due.fails("strokesOf(-1)", IndexOutOfBoundsException.class, () -> x.strokesOf(-1));
        Due.fails("layerOf(2)", IndexOutOfBoundsException.class, () -> x.layerOf(2));
        Due.fails("layerOf(-1)", IndexOutOfBoundsException.class, () -> x.layerOf(-1));
    }
}
