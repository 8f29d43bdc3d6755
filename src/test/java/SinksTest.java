import java.util.NoSuchElementException;

/** Promises 30 to 39: ticks, sinks, lines and pages. */
public final class SinksTest {
    public static void main(String[] args) {
        tick();
        sink();
        shown();
        delayed();
        takenBack();
        longDelays();
        paper();
        lines();
        longPieces();
        lineEnds();
        pages();
        Due.end();
    }

    private static void tick() {
        Stenohall x = new Stenohall();
        Due.is("now", x.now(), 0);
        for (int i = 1; i <= 400; i++) {
            Due.is("tick", x.tick(), i);
        }
        Due.fails("401", IllegalStateException.class, x::tick);
        Due.is("now", x.now(), 400);
        x.stroke(1);
        Due.is("time", x.time(0), 400);
    }

    private static void sink() {
        Stenohall x = new Stenohall();
        Due.fails("sink(-1)", IllegalArgumentException.class, () -> x.sink(-1));
        Due.fails("sink(10)", IllegalArgumentException.class, () -> x.sink(10));
        Due.is("sink", x.sink(9), 0);
        Due.is("sink", x.sink(0), 1);
        Due.is("sink", x.sink(0), 2);
        Due.is("sink", x.sink(0), 3);
        Due.fails("a fifth", IllegalStateException.class, () -> x.sink(0));
        Due.fails("no fifth", IllegalArgumentException.class, () -> x.sink(10));
        Due.fails("shown(4)", IndexOutOfBoundsException.class, () -> x.shown(4));
        Due.fails("shown(-1)", IndexOutOfBoundsException.class, () -> x.shown(-1));
        Due.fails("takenBack(4)", IndexOutOfBoundsException.class, () -> x.takenBack(4));
        Due.fails("takenBack(-1)", IndexOutOfBoundsException.class, () -> x.takenBack(-1));
        Due.fails("shownAt(4, 0)", IndexOutOfBoundsException.class, () -> x.shownAt(4, 0));
        Due.fails("shownAt(-1, -1)", IndexOutOfBoundsException.class, () -> x.shownAt(-1, -1));
        Due.fails("shownAt(0, 0)", NoSuchElementException.class, () -> x.shownAt(0, 0));
    }

    private static void shown() {
        Stenohall x = new Stenohall();
        x.sink(0);
        Due.write(x, "a|b");
        Due.is("nothing has ended", x.shown(0), 0);
        x.tick();
        Due.is("shown", x.shown(0), 3);
        Due.is("a line end", x.shownAt(0, 1), '|');
        Due.fails("shownAt(0, 3)", NoSuchElementException.class, () -> x.shownAt(0, 3));
        Due.fails("shownAt(0, -1)", NoSuchElementException.class, () -> x.shownAt(0, -1));
        x.undo();
        Due.is("it shows what was", Due.shown(x, 0), "a|b");
        x.sink(0);
        Due.is("a new one shows nothing", x.shown(1), 0);
        Due.is("all is sound", x.isSound(), true);
        x.tick();
        Due.is("nothing left", x.shown(0), 0);
        Due.is("taken back", x.takenBack(0), 3);
        Due.is("it showed nothing", x.takenBack(1), 0);
    }

    private static void delayed() {
        Stenohall x = new Stenohall();
        Due.write(x, "a");
        x.tick();
        x.tick();
        x.stroke(1);
        x.tick();
        x.sink(2);
        x.sink(9);
        Due.is("no tick has ended since", x.shown(0), 0);
        x.tick();
        Due.is("what was kept before it was there", Due.shown(x, 0), "a");
        x.tick();
        Due.is("two ticks ago", Due.shown(x, 0), "a a");
        for (int i = 5; i < 9; i++) {
            x.tick();
        }
        Due.is("less than 0", x.shown(1), 0);
        x.tick();
        Due.is("the tick 0", Due.shown(x, 1), "a");
        x.tick();
        Due.is("the tick 1", Due.shown(x, 1), "a");
        x.tick();
        Due.is("the tick 2", Due.shown(x, 1), "a a");
        Due.is("nothing was taken back", x.takenBack(0) + x.takenBack(1), 0);
    }

    private static void takenBack() {
        Stenohall x = new Stenohall();
        x.sink(0);
        x.sink(1);
        Due.entry(x, 0, "cat", 1);
        Due.entry(x, 0, "card", 1, 2);
        Due.entry(x, 0, "cat", 3);
        x.stroke(1);
        x.tick();
        x.stroke(2);
        x.tick();
        Due.is("behind the common beginning", x.takenBack(0), 1);
        Due.is("not yet", x.takenBack(1), 0);
        x.undo();
        x.tick();
        Due.is("two more", x.takenBack(0), 3);
        Due.is("now", x.takenBack(1), 1);
        x.stroke(3);
        x.undo();
        x.tick();
        Due.is("what no tick saw is not taken back", x.takenBack(0), 3);
        x.undo();
        x.stroke(3);
        x.tick();
        Due.is("the same text", x.takenBack(0), 3);
        x.undo();
        x.tick();
        x.tick();
        Due.is("all of it", x.takenBack(0), 6);
        Due.is("and later", x.takenBack(1), 6);
    }

    /** By each tick another letter; the sink of the longest delay sees each of them in its turn. */
    private static void longDelays() {
        Stenohall x = new Stenohall();
        x.sink(9);
        for (int i = 0; i < 60; i++) {
            Due.entry(x, 0, "" + (char) ('a' + i % 26), 1);
            if (i == 0) {
                x.stroke(1);
            }
            x.tick();
            String want = i < 9 ? "" : "" + (char) ('a' + (i - 9) % 26);
            Due.is("nine ticks ago", Due.shown(x, 0), want);
            Due.is("taken back", x.takenBack(0), Math.max(0, i - 9));
        }
    }

    private static void paper() {
        Stenohall x = new Stenohall();
        for (int[] wrong : new int[][] {{9, 2}, {81, 2}, {10, 1}, {10, 31}, {-1, -1}, {0, 0}}) {
            Due.fails("paper " + wrong[0] + " " + wrong[1], IllegalArgumentException.class, () -> x.paper(wrong[0], wrong[1]));
        }
        Due.is("as at first", x.paper(10, 2), 4010);
        Due.is("least", x.paper(80, 30), 1002);
        Due.is("most", x.paper(40, 10), 8030);
    }

    private static void lines() {
        Stenohall x = new Stenohall();
        Due.is("no line", x.lines(), 0);
        Due.fails("lineOf(0)", IndexOutOfBoundsException.class, () -> x.lineOf(0));
        x.paper(10, 2);
        Due.write(x, "abcd", "efghi", "j", "klmnopqrst", "u");
        Due.is("lines", x.lines(), 4);
        Due.is("blanks are of the line ahead", Due.lines(x), "00000000000" + "11" + "22222222222" + "3");
        Due.fails("lineOf(25)", IndexOutOfBoundsException.class, () -> x.lineOf(25));
        Due.fails("lineOf(-1)", IndexOutOfBoundsException.class, () -> x.lineOf(-1));
        x.paper(11, 2);
        Due.is("wider", Due.lines(x), "00000000000" + "11" + "22222222222" + "3");
        x.paper(12, 2);
        Due.is("one blank between", Due.lines(x), "000000000000" + "0" + "111111111111");
        x.undo();
        Due.is("after an undo", x.lines(), 2);
        x.undo();
        Due.is("after another one", x.lines(), 1);
        x.stroke(4);
        Due.is("after a stroke", x.lineOf(13), 1);
    }

    private static void longPieces() {
        Stenohall x = new Stenohall();
        x.paper(10, 2);
        Due.write(x, "ab", "abcdefghijkl", "^mnopqrs", "cdefghi", "k", "l");
        Due.is("text", Due.text(x), "ab abcdefghijklmnopqrs cdefghi k l");
        Due.is("begins a line and goes on", Due.lines(x), "000" + "1111111111" + "222222222" + "2" + "3333333" + "333" + "4");
        Stenohall y = new Stenohall();
        y.paper(10, 2);
        Due.write(y, "abcdefghijkl", "mnopqrs", "t");
        Due.is("further ones fill the last", Due.lines(y), "0000000000" + "111" + "1111111" + "12");
        Stenohall z = new Stenohall();
        z.paper(10, 2);
        Due.write(z, "abcdefghij", "^k", "l|", "abcdefghijk");
        Due.is("behind a line end", Due.lines(z), "0000000000" + "1111" + "2222222222" + "3");
    }

    private static void lineEnds() {
        Stenohall x = Due.written("|");
        Due.is("a line end alone", x.lines(), 1);
        Due.is("of its line", x.lineOf(0), 0);
        Stenohall y = Due.written("a||b", "|");
        Due.is("none behind it", y.lines(), 3);
        Due.is("of the line ahead", Due.lines(y), "00122");
        Stenohall z = new Stenohall();
        z.paper(10, 2);
        Due.write(z, "abcdefghij", "|", "abcdefghij", "|k");
        Due.is("full lines", Due.lines(z), "00000000000" + "11111111111" + "2");
    }

    private static void pages() {
        Stenohall x = Due.written("a|b|c|d|e");
        Due.is("one page", x.pageOf(8), 0);
        x.paper(10, 2);
        Due.is("page 0", x.pageOf(0), 0);
        Due.is("page 0", x.pageOf(3), 0);
        Due.is("page 1", x.pageOf(4), 1);
        Due.is("page 2", x.pageOf(8), 2);
        x.paper(10, 4);
        Due.is("four lines", x.pageOf(7), 0);
        Due.is("four lines", x.pageOf(8), 1);
        Due.fails("pageOf(9)", IndexOutOfBoundsException.class, () -> x.pageOf(9));
        Due.fails("pageOf(-1)", IndexOutOfBoundsException.class, () -> x.pageOf(-1));
        Due.fails("pageOf(0) of none", IndexOutOfBoundsException.class, () -> new Stenohall().pageOf(0));
    }
}
