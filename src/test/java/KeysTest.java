import java.util.NoSuchElementException;

/** Promises 1 to 8: keys and strokes, and the examples of the document. */
public final class KeysTest {
    public static void main(String[] args) {
        examples();
        newObject();
        mode();
        down();
        upByLast();
        upByFirst();
        upWhenFull();
        stroke();
        undo();
        strokeAt();
        Due.end();
    }

    private static void examples() {
        Stenohall x = new Stenohall();
        Due.is("example 1: down(0)", x.down(0), 1);
        Due.is("example 1: down(3)", x.down(3), 2);
        Due.is("example 1: up(0)", x.up(0), 0);
        Due.is("example 1: up(3)", x.up(3), 9);
        Due.is("example 1: strokes", x.strokes(), 1);
        Due.is("example 1: at(0)", x.at(0), '?');
        Due.is("example 1: misses", x.misses(), 1);
        Due.is("example 1: length", x.length(), 2);
        Stenohall y = new Stenohall();
        Due.is("example 2: chord", y.chord(5), 1);
        Due.is("example 2: sign 1", y.sign('-'), 1);
        Due.is("example 2: sign 2", y.sign('o'), 2);
        Due.is("example 2: sign 3", y.sign('h'), 3);
        Due.is("example 2: entry", y.entry(0), false);
        Due.is("example 2: stroke", y.stroke(5), 1);
        Due.is("example 2: at(0)", y.at(0), 'O');
        Due.is("example 2: at(1)", y.at(1), 'h');
        Due.is("example 2: words", y.words(), 1);
    }

    private static void newObject() {
        Stenohall x = new Stenohall();
        Due.is("new: strokes", x.strokes(), 0);
        Due.is("new: length", x.length(), 0);
        Due.is("new: entries", x.entries(0) + x.entries(1) + x.entries(2) + x.entries(3), 0);
        Due.is("new: forget", x.forget(), 0);
        Due.is("new: wipe", x.wipe(), 0);
        Due.is("new: now", x.now(), 0);
        Due.is("new: isWord", x.isWord(), false);
        Due.is("new: paper", x.paper(80, 30), 4010);
        Due.is("new: turn", x.turn(0, true) && x.turn(1, true) && x.turn(2, true) && x.turn(3, true), true);
        Due.is("new: mode", x.mode('l'), false);
        Due.fails("new: shown", IndexOutOfBoundsException.class, () -> x.shown(0));
        Due.words(x, "a");
        Due.type(x, "b");
        Due.is("new: one word", x.word(), 2);
    }

    private static void mode() {
        Stenohall x = new Stenohall();
        Due.is("mode l again", x.mode('l'), false);
        Due.is("mode f", x.mode('f'), true);
        Due.is("mode f again", x.mode('f'), false);
        Due.is("mode back", x.mode('l'), true);
        Due.fails("mode x", IllegalArgumentException.class, () -> x.mode('x'));
        Due.fails("mode L", IllegalArgumentException.class, () -> x.mode('L'));
        x.down(4);
        Due.fails("mode with a key down", IllegalStateException.class, () -> x.mode('f'));
        Due.fails("the same mode with a key down", IllegalStateException.class, () -> x.mode('l'));
        Due.fails("no mode, a key down", IllegalArgumentException.class, () -> x.mode('x'));
        Due.is("still by the last key", x.down(5) + x.up(4) + x.up(5), 2 + 0 + 48);
    }

    private static void down() {
        Stenohall x = new Stenohall();
        Due.fails("down(-1)", IndexOutOfBoundsException.class, () -> x.down(-1));
        Due.fails("down(16)", IndexOutOfBoundsException.class, () -> x.down(16));
        Due.fails("down(least)", IndexOutOfBoundsException.class, () -> x.down(Integer.MIN_VALUE));
        for (int i = 0; i < 16; i++) {
            Due.is("down " + i, x.down(i), i + 1);
        }
        Due.fails("down twice", UnsupportedOperationException.class, () -> x.down(15));
        for (int i = 0; i < 15; i++) {
            Due.is("up " + i, x.up(i), 0);
        }
        Due.is("all keys", x.up(15), 65535);
    }

    private static void upByLast() {
        Stenohall x = new Stenohall();
        Due.fails("up(16)", IndexOutOfBoundsException.class, () -> x.up(16));
        Due.fails("up(-1)", IndexOutOfBoundsException.class, () -> x.up(-1));
        Due.fails("up of a key that is up", UnsupportedOperationException.class, () -> x.up(0));
        x.down(0);
        x.down(1);
        Due.is("first comes up", x.up(0), 0);
        x.down(0);
        x.down(2);
        Due.is("up again", x.up(0), 0);
        Due.is("up", x.up(1), 0);
        Due.is("last comes up", x.up(2), 7);
        x.down(5);
        Due.is("those before are not of it", x.up(5), 32);
        x.down(1);
        x.stroke(9);
        Due.is("a stroke that is told does not count here", x.up(1), 2);
        Due.is("kept", Due.kept(x), "7 32 9 2");
    }

    private static void upByFirst() {
        Stenohall x = new Stenohall();
        x.mode('f');
        x.down(0);
        x.down(1);
        Due.is("f: made as the first comes up", x.up(0), 3);
        Due.is("f: none went down since", x.up(1), 0);
        x.down(2);
        x.down(3);
        Due.is("f: up", x.up(3), 12);
        x.down(4);
        Due.is("f: those still down are of it", x.up(2), 20);
        Due.is("f: none went down since", x.up(4), 0);
        x.down(6);
        x.stroke(9);
        Due.is("f: a stroke was told since it went down", x.up(6), 0);
        x.down(6);
        Due.is("f: it went down since", x.up(6), 64);
        Due.is("f: kept", Due.kept(x), "3 12 20 9 64");
        x.mode('l');
        x.down(0);
        x.down(1);
        Due.is("l: none yet", x.up(0), 0);
        Due.is("l: the last", x.up(1), 3);
    }

    private static void upWhenFull() {
        Stenohall x = new Stenohall();
        for (int i = 1; i <= 100; i++) {
            Due.is("stroke " + i, x.stroke(i), i);
        }
        x.down(0);
        x.down(1);
        Due.is("none is made yet", x.up(0), 0);
        Due.fails("up, 100 strokes", IllegalStateException.class, () -> x.up(1));
        Due.fails("it is still down", UnsupportedOperationException.class, () -> x.down(1));
        Due.fails("stroke, 100 strokes", IllegalStateException.class, () -> x.stroke(1));
        Due.fails("no stroke, 100 strokes", IllegalArgumentException.class, () -> x.stroke(0));
        Due.is("undo", x.undo(), 100);
        Due.is("now it comes up", x.up(1), 3);
        Due.is("100 again", x.strokes(), 100);
    }

    private static void stroke() {
        Stenohall x = new Stenohall();
        Due.fails("stroke(0)", IllegalArgumentException.class, () -> x.stroke(0));
        Due.fails("stroke(-1)", IllegalArgumentException.class, () -> x.stroke(-1));
        Due.fails("stroke(65536)", IllegalArgumentException.class, () -> x.stroke(65536));
        Due.is("stroke(1)", x.stroke(1), 1);
        Due.is("stroke(65535)", x.stroke(65535), 2);
        Due.entry(x, 0, "=", 4);
        Due.is("stroke that undoes", x.stroke(4), 1);
    }

    private static void undo() {
        Stenohall x = new Stenohall();
        Due.fails("undo of nothing", NoSuchElementException.class, x::undo);
        Due.strokes(x, 5, 6);
        Due.is("undo", x.undo(), 6);
        Due.is("left", x.strokes(), 1);
        Due.is("text", Due.text(x), "??");
        Due.is("undo", x.undo(), 5);
        Due.fails("undo of nothing more", NoSuchElementException.class, x::undo);
        Due.is("empty", x.length() + x.translations(), 0);
        Due.entry(x, 0, "cat", 1);
        Due.entry(x, 0, "dog", 1, 2);
        Due.strokes(x, 1, 2);
        Due.is("two strokes", Due.text(x), "dog");
        x.undo();
        Due.is("what was written comes back", Due.text(x), "cat");
    }

    private static void strokeAt() {
        Stenohall x = new Stenohall();
        Due.fails("strokeAt(0) of none", IndexOutOfBoundsException.class, () -> x.strokeAt(0));
        Due.strokes(x, 7, 8);
        Due.is("strokeAt(0)", x.strokeAt(0), 7);
        Due.is("strokeAt(1)", x.strokeAt(1), 8);
        Due.fails("strokeAt(2)", IndexOutOfBoundsException.class, () -> x.strokeAt(2));
        Due.fails("strokeAt(-1)", IndexOutOfBoundsException.class, () -> x.strokeAt(-1));
        x.undo();
        Due.fails("strokeAt of one undone", IndexOutOfBoundsException.class, () -> x.strokeAt(1));
    }
}
