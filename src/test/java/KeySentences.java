import java.util.NoSuchElementException;

/** Promises 1 to 8 and what the terms say of keys and strokes, sentence by sentence. */
final class KeySentences {
    private static final int[] NO_KEYS = {-1, 16, 17, 255, 256, Integer.MIN_VALUE, Integer.MAX_VALUE};
    private static final int[] NO_STROKES = {0, -1, 65536, 65537, 131071, Integer.MIN_VALUE, Integer.MAX_VALUE};

    private KeySentences() {
    }

    static void run() {
        keys();
        strokesAsBits();
        keyByKey();
        byLast();
        byFirst();
        ticks();
        hundred();
        goneForGood();
        newHall();
        mode();
        modeRefused();
        down();
        up();
        upRefused();
        stroke();
        strokeRefused();
        undo();
        strokes();
        strokeAt();
    }

    private static void keys() {
        Sentences.of(Sentences.TERMS, "There are the keys 0 to 15;");
        Stenohall x = new Stenohall();
        Due.is("down(0)", x.down(0), 1);
        Due.is("down(15)", x.down(15), 2);
        Due.is("up(0)", x.up(0), 0);
        Due.is("up(15)", x.up(15), 1 + 32768);
        for (int key : NO_KEYS) {
            Due.refuses("down(" + key + ")", IndexOutOfBoundsException.class, Halls::rich, y -> y.down(key));
            Due.refuses("up(" + key + ")", IndexOutOfBoundsException.class, Halls::rich, y -> y.up(key));
        }
    }

    private static void strokesAsBits() {
        Sentences.of(Sentences.TERMS, "a stroke is a set of them, told as bits, 1 to 65535.");
        for (int key = 0; key < 16; key++) {
            Stenohall x = new Stenohall();
            x.down(key);
            Due.is("the key " + key, x.up(key), 1 << key);
            Due.is("kept", x.strokeAt(0), 1 << key);
        }
        for (int stroke : new int[] {1, 2, 32768, 65534, 65535}) {
            Stenohall x = new Stenohall();
            x.stroke(stroke);
            Due.is("kept", x.strokeAt(0), stroke);
        }
    }

    private static void keyByKey() {
        Sentences.of(Sentences.TERMS, "A key that is up can go down, one that is down can come up.");
        Stenohall x = new Stenohall();
        Due.fails("up at first", UnsupportedOperationException.class, () -> x.up(3));
        Due.is("down", x.down(3), 1);
        Due.fails("down again", UnsupportedOperationException.class, () -> x.down(3));
        Due.is("another one", x.down(4), 2);
        Due.is("up", x.up(3), 0);
        Due.fails("up again", UnsupportedOperationException.class, () -> x.up(3));
        Due.is("down once more", x.down(3), 2);
    }

    private static void byLast() {
        Sentences.of(Sentences.TERMS, "By the mode 'l', as at first, a stroke is made as the last key comes up, of all keys that went down since all were up.");
        Stenohall x = new Stenohall();
        x.down(0);
        x.down(1);
        x.down(2);
        Due.is("the first comes up", x.up(1), 0);
        Due.is("the second comes up", x.up(0), 0);
        x.down(5);
        x.down(1);
        Due.is("again", x.up(1), 0);
        Due.is("not the last one", x.up(2), 0);
        Due.is("the last one", x.up(5), 1 + 2 + 4 + 32);
        Due.is("one stroke", Due.kept(x), "39");
        x.down(7);
        Due.is("since all were up", x.up(7), 128);
        x.down(2);
        x.stroke(9);
        x.down(3);
        Due.is("a stroke that was told does not matter", x.up(2) + x.up(3), 12);
        x.down(2);
        x.down(4);
        x.up(4);
        x.stroke(9);
        Due.is("nor to a key that came up ahead of it", x.up(2), 20);
    }

    private static void byFirst() {
        Sentences.of(Sentences.TERMS, "By 'f' it is made as a key comes up, if one went down since the last stroke, or since the mode was told, of all keys that were down till then.");
        Stenohall x = new Stenohall();
        x.mode('f');
        x.down(0);
        x.down(1);
        x.down(2);
        Due.is("as a key comes up", x.up(1), 7);
        Due.is("none went down since", x.up(0), 0);
        x.down(3);
        Due.is("of all that were down till then", x.up(2), 4 + 8);
        Due.is("none went down since", x.up(3), 0);
        x.down(3);
        Due.is("a key alone", x.up(3), 8);
        x.down(3);
        Due.is("the same again", x.up(3), 8);
        Due.is("kept", Due.kept(x), "7 12 8 8");
        x.down(4);
        x.stroke(9);
        Due.is("since a stroke that was told", x.up(4), 0);
        x.mode('f');
        x.down(4);
        Due.is("since the mode was told", x.up(4), 16);
    }

    private static void ticks() {
        Sentences.of(Sentences.TERMS, "Ticks are numbered, 0 at first; a stroke has the tick in which it was made, or told.");
        Stenohall x = new Stenohall();
        Due.is("at first", x.now(), 0);
        x.stroke(1);
        x.down(1);
        x.tick();
        x.up(1);
        x.tick();
        x.tick();
        x.stroke(1);
        Due.is("times", Due.times(x), "00111333");
        Due.is("from 0 to 3", x.delay(), 1.5);
    }

    private static void hundred() {
        Sentences.of(Sentences.TERMS, "At most 100 strokes are kept;");
        Stenohall x = new Stenohall();
        Halls.strokes(x, 98);
        Due.is("the 99th", x.stroke(99), 99);
        x.down(0);
        Due.is("the 100th", x.up(0), 1);
        Due.is("100 are kept", x.strokes(), 100);
        Due.fails("a 101st", IllegalStateException.class, () -> x.stroke(1));
        Due.is("100 are kept still", x.strokes(), 100);
        Due.is("each is a translation", x.translations(), 100);
        Due.is("the first one is kept", x.strokeAt(0), 1);
    }

    private static void goneForGood() {
        Sentences.of(Sentences.TERMS, "those undone are gone for good.");
        Stenohall x = new Stenohall();
        Due.strokes(x, 5, 6, 7, 8);
        x.undo();
        Due.entry(x, 0, "=", 7);
        Due.is("7 takes 6 with it", Due.kept(x), "5");
        x.chord(7);
        x.remove(0);
        Due.is("they don't come back", Due.kept(x), "5");
        Due.is("the next one is behind those left", x.stroke(9), 2);
        Due.is("kept", Due.kept(x), "5 9");
    }

    private static void newHall() {
        Sentences.of(1, "Creates a hall without entries, words, rules, sinks and strokes.");
        Stenohall x = new Stenohall();
        for (int layer = 0; layer < 4; layer++) {
            Due.is("entries of " + layer, x.entries(layer), 0);
        }
        Due.is("strokes", x.strokes(), 0);
        Due.is("translations", x.translations(), 0);
        Due.is("signs", x.length(), 0);
        Due.is("words written", x.words(), 0);
        Due.is("misses", x.misses(), 0);
        Due.is("cells", x.brailleLength(), 0);
        Due.is("lines", x.lines(), 0);
        Due.is("rules", x.forget(), 0);
        Due.is("typed", x.wipe(), 0);
        Due.fails("sink 0", IndexOutOfBoundsException.class, () -> x.takenBack(0));
        Due.is("the first sink", x.sink(1), 0);
        Due.type(x, "ab");
        Due.is("the first contraction", x.contract(27), 1);
        Due.type(x, "ab");
        Due.is("the first word", x.word(), 1);
        Stenohall y = new Stenohall();
        Due.is("halls have nothing in common", y.entries(0) + y.strokes() + y.forget() + y.sink(0), 0);
    }

    private static void mode() {
        Sentences.of(2, "Tells the mode of the keyboard. mode: l or f Returns whether it was another one.");
        Stenohall x = new Stenohall();
        Due.is("l as at first", x.mode('l'), false);
        Due.is("f", x.mode('f'), true);
        Due.is("f again", x.mode('f'), false);
        x.down(0);
        x.down(1);
        Due.is("by the first one", x.up(0), 3);
        x.up(1);
        Due.is("l", x.mode('l'), true);
        x.down(0);
        x.down(1);
        Due.is("by the last one", x.up(0), 0);
        Due.is("by the last one", x.up(1), 3);
    }

    private static void modeRefused() {
        Sentences.of(2, "Throws IllegalArgumentException if there is no such mode");
        for (char mode : new char[] {'k', 'm', 'e', 'g', 'L', 'F', ' ', 0, 'l' + 256, 'f' + 256, 65535}) {
            Due.refuses("mode " + (int) mode, IllegalArgumentException.class, Halls::rich, y -> y.mode(mode));
            Due.refuses("mode " + (int) mode, IllegalArgumentException.class, y -> y.mode('f'), y -> y.mode(mode));
            Due.refuses("mode " + (int) mode, IllegalArgumentException.class, Halls::newlyDown, y -> y.mode(mode));
        }
        Sentences.of(2, "Throws IllegalStateException if a key is down");
        for (int key : new int[] {0, 7, 15}) {
            Due.refuses("mode l", IllegalStateException.class, y -> y.down(key), y -> y.mode('l'));
            Due.refuses("mode f", IllegalStateException.class, y -> y.down(key), y -> y.mode('f'));
        }
        Due.refuses("in mode f", IllegalStateException.class, Halls::byFirst, y -> y.mode('l'));
        for (char mode : new char[] {'l', 'f'}) {
            Due.refuses("a key went down since the last stroke", IllegalStateException.class, Halls::newlyDown, y -> y.mode(mode));
        }
        Stenohall x = new Stenohall();
        x.down(0);
        x.up(0);
        Due.is("none is down then", x.mode('f'), true);
    }

    private static void down() {
        Sentences.of(3, "Lets a key go down. key: 0 to 15 Returns how many are down.");
        Stenohall x = new Stenohall();
        for (int key = 15; key >= 0; key--) {
            Due.is("down(" + key + ")", x.down(key), 16 - key);
        }
        x.up(3);
        x.up(4);
        Due.is("two came up", x.down(4), 15);
        Sentences.of(3, "Throws IndexOutOfBoundsException if there is no such key");
        Due.fails("down(-1)", IndexOutOfBoundsException.class, () -> x.down(-1));
        Due.fails("down(16)", IndexOutOfBoundsException.class, () -> x.down(16));
        Sentences.of(3, "Throws UnsupportedOperationException if it is down");
        for (int key : new int[] {0, 9, 15}) {
            Due.refuses("down twice", UnsupportedOperationException.class, y -> y.down(key), y -> y.down(key));
        }
        Due.refuses("in mode f, behind a stroke", UnsupportedOperationException.class, Halls::byFirst, y -> y.down(1));
    }

    private static void up() {
        Sentences.of(4, "Lets a key come up. key: 0 to 15 Returns the stroke that is made, 0 for none.");
        Stenohall x = new Stenohall();
        x.down(0);
        x.down(15);
        Due.is("none", x.up(15), 0);
        Due.is("a stroke", x.up(0), 32769);
        Due.entry(x, 0, "=", 2);
        x.down(1);
        Due.is("one that undoes", x.up(1), 2);
        Due.is("none is kept", x.strokes(), 0);
    }

    private static void upRefused() {
        Sentences.of(4, "Throws IndexOutOfBoundsException if there is no such key");
        Due.refuses("up(-1)", IndexOutOfBoundsException.class, y -> y.down(0), y -> y.up(-1));
        Due.refuses("up(16)", IndexOutOfBoundsException.class, y -> y.down(0), y -> y.up(16));
        Sentences.of(4, "Throws UnsupportedOperationException if it is up");
        Due.refuses("up of one that never was down", UnsupportedOperationException.class, y -> y.down(0), y -> y.up(1));
        Due.refuses("up twice", UnsupportedOperationException.class, Halls::byFirst, y -> y.up(0));
        Due.refuses("up, 100 strokes", UnsupportedOperationException.class, Halls::full, y -> y.up(5));
        Sentences.of(4, "Throws IllegalStateException if a stroke would be made, and there are 100");
        Due.refuses("by the last one", IllegalStateException.class, Halls::full, y -> y.up(0));
        Due.refuses("by the first one", IllegalStateException.class, Halls::fullByFirst, y -> y.up(0));
        Stenohall x = new Stenohall();
        Halls.full(x);
        x.down(1);
        Due.is("none would be made", x.up(1), 0);
        x.undo();
        Due.is("99 of them", x.up(0), 3);
        Stenohall y = new Stenohall();
        Halls.fullByFirst(y);
        y.undo();
        Due.is("99 of them", y.up(0), 3);
        Due.is("none would be made", y.up(1), 0);
        Stenohall z = new Stenohall();
        Halls.full(z);
        Due.entry(z, 0, "=", 1);
        Due.is("the first one undoes", z.strokes(), 99);
        Due.is("one that undoes", z.up(0), 1);
        Due.is("undone", z.strokes(), 98);
    }

    private static void stroke() {
        Sentences.of(5, "Makes a stroke. keys: the keys, as bits Returns how many strokes are kept then.");
        Stenohall x = new Stenohall();
        Due.is("the first", x.stroke(1), 1);
        Due.is("the second", x.stroke(65535), 2);
        Due.is("the same", x.stroke(65535), 3);
        Due.entry(x, 0, "=", 4, 4);
        Due.is("half of an outline", x.stroke(4), 4);
        Due.is("the other half undoes both, and one", x.stroke(4), 2);
        Due.is("kept", Due.kept(x), "1 65535");
    }

    private static void strokeRefused() {
        Sentences.of(5, "Throws IllegalArgumentException if it is out of range");
        for (int stroke : NO_STROKES) {
            Due.refuses("stroke " + stroke, IllegalArgumentException.class, Halls::rich, y -> y.stroke(stroke));
            Due.refuses("stroke " + stroke, IllegalArgumentException.class, Halls::newlyDown, y -> y.stroke(stroke));
        }
        Sentences.of(5, "Throws IllegalStateException if there are 100");
        Due.refuses("stroke, 100 strokes", IllegalStateException.class, Halls::full, y -> y.stroke(1));
        Due.refuses("stroke, a key went down since the 100th", IllegalStateException.class, Halls::fullByFirst, y -> y.stroke(1));
        Due.refuses("one that would undo", IllegalStateException.class, y -> {
            Halls.full(y);
            Due.entry(y, 0, "=", 500);
        }, y -> y.stroke(500));
    }

    private static void undo() {
        Sentences.of(6, "Undoes the last stroke that is kept. Returns the stroke.");
        Stenohall x = new Stenohall();
        Due.entry(x, 0, "one", 1);
        Due.entry(x, 0, "two", 1, 2);
        Due.entry(x, 0, "=", 9);
        Due.strokes(x, 1, 2, 65535);
        Due.is("the last", x.undo(), 65535);
        Due.is("both strokes", Due.text(x), "two");
        Due.is("half of an outline", x.undo(), 2);
        Due.is("the first one's content", Due.text(x), "one");
        Due.strokes(x, 7, 9);
        Due.is("that which is kept", x.undo(), 1);
        Due.is("none", x.strokes() + x.length() + x.translations(), 0);
        Sentences.of(6, "Throws NoSuchElementException if there is none");
        Due.refuses("undo of none", NoSuchElementException.class, y -> Due.type(y, "ab", 1), Stenohall::undo);
        Due.refuses("undo of none left", NoSuchElementException.class, y -> {
            y.stroke(1);
            y.undo();
        }, Stenohall::undo);
        Due.refuses("a key down is no stroke", NoSuchElementException.class, y -> y.down(1), Stenohall::undo);
    }

    private static void strokes() {
        Sentences.of(7, "Returns how many strokes are kept. Returns how many.");
        Stenohall x = new Stenohall();
        Due.is("none", x.strokes(), 0);
        x.down(1);
        Due.is("none is made yet", x.strokes(), 0);
        x.up(1);
        Due.is("made", x.strokes(), 1);
        x.stroke(9);
        Due.is("told", x.strokes(), 2);
        x.undo();
        Due.is("undone", x.strokes(), 1);
        Due.entry(x, 0, "=", 2);
        Due.is("undone by an entry", x.strokes(), 0);
    }

    private static void strokeAt() {
        Sentences.of(8, "Returns a stroke. index: the index, from 0 Returns the keys, as bits.");
        Stenohall x = new Stenohall();
        Due.strokes(x, 65535, 1, 300);
        Due.is("kept", Due.kept(x), "65535 1 300");
        Due.entry(x, 0, "=", 1);
        Due.is("those behind move up", Due.kept(x), "300");
        Sentences.of(8, "Throws IndexOutOfBoundsException if there is no such stroke");
        Due.fails("strokeAt(1)", IndexOutOfBoundsException.class, () -> x.strokeAt(1));
        for (int index : new int[] {-1, 3, 4, 100, Integer.MIN_VALUE, Integer.MAX_VALUE}) {
            Due.refuses("strokeAt(" + index + ")", IndexOutOfBoundsException.class, y -> Due.strokes(y, 1, 2, 3), y -> y.strokeAt(index));
        }
        Due.refuses("of 100", IndexOutOfBoundsException.class, Halls::full, y -> y.strokeAt(100));
        Due.refuses("of none", IndexOutOfBoundsException.class, y -> y.sign('a'), y -> y.strokeAt(0));
    }
}
