import java.util.NoSuchElementException;

/** Promises 40 to 49: braille, learning and the whole. */
public final class LearningTest {
    public static void main(String[] args) {
        contract();
        contractLimit();
        cells();
        contracted();
        misses();
        nearest();
        saving();
        brief();
        delay();
        checksum();
        isSound();
        Due.end();
    }

    private static int contract(Stenohall x, String letters, int cell) {
        Due.type(x, letters);
        return x.contract(cell);
    }

    private static void contract() {
        Stenohall x = new Stenohall();
        Due.type(x, "th", 9);
        Due.fails("contract(26)", IllegalArgumentException.class, () -> x.contract(26));
        Due.fails("contract(64)", IllegalArgumentException.class, () -> x.contract(64));
        Due.is("contract(27)", x.contract(27), 1);
        Due.is("the stroke stays", x.wipe(), 1);
        Due.is("contract(63)", contract(x, "abcd", 63), 2);
        Due.type(x, "a");
        Due.fails("one sign", UnsupportedOperationException.class, () -> x.contract(30));
        Due.type(x, "bcde");
        Due.fails("five signs", UnsupportedOperationException.class, () -> x.contract(30));
        x.wipe();
        Due.type(x, "a-b");
        Due.fails("no letter", UnsupportedOperationException.class, () -> x.contract(30));
        x.wipe();
        Due.fails("no sign", UnsupportedOperationException.class, () -> x.contract(30));
        Due.type(x, "th");
        Due.fails("these letters", UnsupportedOperationException.class, () -> x.contract(30));
        Due.type(x, "e");
        Due.fails("this cell", UnsupportedOperationException.class, () -> x.contract(27));
        Due.is("the signs stay", x.contract(28), 3);
    }

    private static void contractLimit() {
        Stenohall x = new Stenohall();
        for (int i = 0; i < 20; i++) {
            Due.is("contract", contract(x, "a" + (char) ('a' + i), 27 + i), i + 1);
        }
        Due.type(x, "zz");
        Due.fails("a 21st", IllegalStateException.class, () -> x.contract(50));
        Due.fails("its cell comes first", UnsupportedOperationException.class, () -> x.contract(27));
        Due.is("it stays typed", x.wipe(), 2);
    }

    private static void cells() {
        Stenohall x = Due.written("az", "-b", "|", "??", ".", ",");
        Due.is("text", Due.text(x), "az B|??.,");
        Due.is("cells", Due.cells(x), "1 26 0 64 2 66 69 69 67 68");
        Due.is("brailleLength", x.brailleLength(), 10);
        Due.fails("cellAt(10)", IndexOutOfBoundsException.class, () -> x.cellAt(10));
        Due.fails("cellAt(-1)", IndexOutOfBoundsException.class, () -> x.cellAt(-1));
        x.undo();
        Due.is("one less", x.brailleLength(), 9);
        x.undo();
        Due.fails("cellAt after an undo", IndexOutOfBoundsException.class, () -> x.cellAt(8));
    }

    private static void contracted() {
        Stenohall x = new Stenohall();
        Due.write(x, "then", "-the", "th-e", "t-he", "ath^", "e");
        Due.is("text", Due.text(x), "then The thE tHe athe");
        Due.is("letters", x.brailleLength(), 24);
        contract(x, "th", 30);
        Due.is("one", Due.cells(x), "30 5 14 0 64 30 5 0 30 64 5 0 20 64 8 5 0 1 30 5");
        contract(x, "the", 31);
        Due.is("the longest", Due.cells(x), "31 14 0 64 31 0 30 64 5 0 20 64 8 5 0 1 31");
        contract(x, "then", 32);
        contract(x, "at", 33);
        Due.is("from the left", Due.cells(x), "32 0 64 31 0 30 64 5 0 20 64 8 5 0 33 8 5");
        Due.is("sound", x.isSound(), true);
        Stenohall z = new Stenohall();
        Due.write(z, "zthe", "ghen", "shed", "-aza-z");
        contract(z, "then", 29);
        contract(z, "the", 28);
        contract(z, "th", 27);
        contract(z, "hed", 63);
        contract(z, "aza", 40);
        Due.is("the longest was told first", Due.cells(z), "26 28 0 7 8 5 14 0 19 63 0 64 40 64 26");
        Due.is("reads back", z.isSound(), true);
        Stenohall y = new Stenohall();
        contract(y, "ab", 40);
        Due.write(y, "a", "b", "^a|b");
        Due.is("not over blanks and line ends", Due.cells(y), "1 0 2 1 66 2");
    }

    private static void misses() {
        Stenohall x = new Stenohall();
        Due.entry(x, 0, "a", 1);
        Due.strokes(x, 1, 2, 2, 3, 1, 2);
        Due.is("each stroke once", x.misses(), 2);
        Due.entry(x, 0, "b", 2);
        Due.is("no more", x.misses(), 1);
        x.turn(0, false);
        Due.is("without the layer", x.misses(), 3);
    }

    private static void nearest() {
        Stenohall first = new Stenohall();
        Due.entry(first, 0, "a", 3);
        Due.is("the only one", first.nearest(65532), 3);
        Stenohall x = new Stenohall();
        Due.fails("nearest(0)", IllegalArgumentException.class, () -> x.nearest(0));
        Due.fails("nearest(65536)", IllegalArgumentException.class, () -> x.nearest(65536));
        Due.fails("none", NoSuchElementException.class, () -> x.nearest(1));
        Due.entry(x, 0, "a", 1, 2);
        Due.fails("two strokes", NoSuchElementException.class, () -> x.nearest(1));
        Due.entry(x, 0, "a", 12);
        Due.is("all keys unlike", x.nearest(65535 - 12), 12);
        Due.entry(x, 1, "a", 7);
        Due.entry(x, 2, "=", 65535);
        Due.is("the same", x.nearest(7), 7);
        Due.is("one key unlike", x.nearest(15), 7);
        Due.is("one key unlike", x.nearest(13), 12);
        Due.is("of several the least", x.nearest(5 + 8), 12);
        Due.is("two and two", x.nearest(6), 7);
        Due.is("all keys", x.nearest(65534), 65535);
        Due.entry(x, 3, "a", 3);
        Due.entry(x, 3, "a", 9);
        Due.is("1 is one key from 3 and 9", x.nearest(1), 3);
        x.turn(3, false);
        Due.is("layers that are off don't count", x.nearest(1), 7);
    }

    private static void saving() {
        Stenohall x = new Stenohall();
        Due.entry(x, 0, "cat", 1, 2, 3);
        Due.entry(x, 0, "cat", 4, 5);
        Due.entry(x, 0, "dog", 6, 7);
        Due.entry(x, 0, "he", 8);
        Due.type(x, "dog", 8);
        x.alternative(0, 'd');
        Due.is("none", x.saving(), 0);
        Due.strokes(x, 9, 9, 8);
        Due.is("one stroke saves nothing", x.saving(), 0);
        Due.strokes(x, 1, 2, 3);
        Due.is("three strokes", x.saving(), 2);
        Due.strokes(x, 4, 5);
        Due.is("the last one counts", x.saving(), 2);
        Due.strokes(x, 4, 5);
        Due.is("three times", x.saving(), 3);
        Due.strokes(x, 1, 2, 3);
        Due.is("four times", x.saving(), 8);
        Stenohall y = new Stenohall();
        Due.entry(y, 0, "he", 8);
        Due.type(y, "dog", 8);
        y.alternative(0, 'd');
        Due.entry(y, 0, "dog", 6, 7, 5);
        Due.strokes(y, 8, 6, 7, 5);
        Due.is("that of an alternative too", y.saving(), 4);
        Due.entry(y, 0, "ado", 6, 7, 5);
        Due.is("another content", y.saving(), 2);
        Due.entry(y, 0, "a", 4);
        Due.strokes(y, 3, 3, 3);
        Due.is("misses don't count", y.saving(), 2);
        Stenohall z = new Stenohall();
        Due.entry(z, 0, "he", 1, 1, 1, 1);
        Due.strokes(z, 1, 1, 1, 1);
        Due.is("of the first translation", z.saving(), 3);
    }

    private static void brief() {
        Stenohall x = new Stenohall();
        Due.fails("no strokes", ArithmeticException.class, x::brief);
        Due.strokes(x, 1, 2, 3);
        Due.is("8 signs for 3 strokes", x.brief(), 8f / 3f);
        Due.entry(x, 0, "#", 1, 2, 3);
        Due.is("no signs", x.brief(), 0f);
        Due.is("one stroke", Due.written("abc").brief(), 3f);
    }

    private static void delay() {
        Stenohall x = new Stenohall();
        Due.fails("no strokes", ArithmeticException.class, x::delay);
        x.tick();
        x.stroke(1);
        Due.fails("one stroke", ArithmeticException.class, x::delay);
        x.stroke(1);
        Due.is("at once", x.delay(), 0.0);
        x.tick();
        x.tick();
        x.tick();
        x.down(1);
        x.tick();
        x.up(1);
        Due.is("4 by 2", x.delay(), 2.0);
        x.stroke(1);
        Due.is("4 by 3", x.delay(), 4.0 / 3.0);
        Stenohall y = new Stenohall();
        y.stroke(1);
        y.tick();
        y.stroke(1);
        y.tick();
        y.stroke(1);
        Due.is("from the first one on", y.delay(), 1.0);
        Due.entry(x, 0, "=", 9);
        x.tick();
        x.stroke(9);
        Due.is("undone ones don't count", x.delay(), 2.0);
    }

    private static void checksum() {
        Stenohall x = new Stenohall();
        Due.is("at first", x.checksum(), 7L);
        Due.write(x, "a|");
        Due.is("a line end is 10", x.checksum(), ((7L * 31 + 'a') * 31 + 10) * 31 + 1);
        Due.entry(x, 0, "b", 7, 8);
        Due.strokes(x, 7, 8);
        Due.is("two translations", x.checksum(), ((((7L * 31 + 'a') * 31 + 10) * 31 + 'b') * 31 + 1) * 31 + 2);
    }

    private static void isSound() {
        Stenohall x = new Stenohall();
        Due.is("new", x.isSound(), true);
        x.sink(0);
        x.rule('e');
        contract(x, "ak", 50);
        Due.write(x, "-bake", "^ing", "#", "cat", "^s", "<", "|", "??", "-^");
        Due.is("before a tick", x.isSound(), true);
        x.tick();
        x.sink(0);
        Due.is("a sink that no tick has ended for", x.isSound(), true);
        x.undo();
        Due.is("after an undo", x.isSound(), true);
        Due.entry(x, 3, "=", 3);
        Due.is("strokes gone", x.isSound(), true);
        x.tick();
        Due.is("after a tick", x.isSound(), true);
        Due.type(x, "-pie", 1);
        x.alternative(0, 'c');
        Due.entry(x, 0, "cow", 2);
        Due.is("an alternative", Due.text(x).startsWith("Pie"), true);
        Due.is("with an alternative", x.isSound(), true);
    }
}
