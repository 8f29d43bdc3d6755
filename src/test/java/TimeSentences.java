import java.util.NoSuchElementException;

/** Promises 30 to 39, and what the terms say of times, sinks and pages, sentence by sentence. */
final class TimeSentences {
    private static final int[] NO_SINKS = {-1, 2, 3, 4, Integer.MIN_VALUE, Integer.MAX_VALUE};
    private static final int[] NO_SIGNS = {-1, 3, 4, 1300, Integer.MIN_VALUE, Integer.MAX_VALUE};

    private TimeSentences() {
    }

    static void run() {
        times();
        rewrittenTimes();
        fourSinks();
        keptTicks();
        delays();
        takenBackBehindTheBeginning();
        paperAtFirst();
        pieces();
        longPieces();
        lineEnds();
        brokenBlanks();
        tick();
        now();
        sink();
        shown();
        shownAt();
        takenBack();
        paper();
        lines();
        lineOf();
        pageOf();
    }

    private static void times() {
        Sentences.of(Sentences.TERMS, "The time of a sign is the tick of the last stroke of the translation by which it was written;");
        Stenohall x = new Stenohall();
        Due.entry(x, 0, "ab", 1, 2, 3);
        Due.entry(x, 0, "c", 4);
        for (int stroke : new int[] {1, 2, 3, 4}) {
            x.stroke(stroke);
            x.tick();
        }
        Due.is("the last stroke's, a blank's too", Due.times(x), "2233");
        x.undo();
        x.undo();
        Due.is("misses", Due.times(x), "00111");
        x.stroke(3);
        Due.is("a later stroke", Due.times(x), "44");
    }

    private static void rewrittenTimes() {
        Sentences.of(Sentences.TERMS, "a letter that takes the place of another one, or becomes a capital, is written by that translation.");
        Stenohall x = new Stenohall();
        x.rule('y');
        x.rule('d');
        x.rule('s');
        String[] contents = {"cry", "^ed", "run", "^ing", "fox", "^s", "<"};
        for (int i = 0; i < contents.length; i++) {
            Due.entry(x, 0, contents[i], i + 1);
            x.stroke(i + 1);
            x.tick();
        }
        Due.is("text", Due.text(x), "cried running Foxes");
        Due.is("the i, the second n and the e, and the capital", Due.times(x), "0011122223333464455");
        x.stroke(7);
        Due.is("one that is a capital is not written", Due.times(x), "0011122223333464455");
    }

    private static void fourSinks() {
        Sentences.of(Sentences.TERMS, "At most 4 sinks are numbered from 0, each with a delay of 0 to 9 ticks.");
        Stenohall x = new Stenohall();
        Due.is("the first", x.sink(9), 0);
        Due.is("the second", x.sink(0), 1);
        Due.is("the third", x.sink(4), 2);
        Due.is("the fourth", x.sink(0), 3);
        Due.fails("a fifth", IllegalStateException.class, () -> x.sink(0));
        Due.fails("it has no number", IndexOutOfBoundsException.class, () -> x.shown(4));
        Due.write(x, "a");
        for (int i = 0; i < 9; i++) {
            x.tick();
        }
        Due.is("after nine ticks", "" + x.shown(0) + x.shown(1) + x.shown(2) + x.shown(3), "0111");
        x.tick();
        Due.is("after ten", "" + x.shown(0) + x.shown(1) + x.shown(2) + x.shown(3), "1111");
    }

    private static void keptTicks() {
        Sentences.of(Sentences.TERMS, "As a tick ends, what is written then is kept; at most 400 ticks.");
        Stenohall x = new Stenohall();
        x.sink(0);
        Due.write(x, "a");
        x.tick();
        x.undo();
        Due.is("kept as it was", Due.shown(x, 0), "a");
        for (int i = 2; i < 400; i++) {
            x.tick();
        }
        x.stroke(1);
        Due.is("the 400th", x.tick(), 400);
        Due.is("kept", Due.shown(x, 0), "a");
        Due.fails("one more", IllegalStateException.class, x::tick);
    }

    private static void delays() {
        Sentences.of(Sentences.TERMS, "At the end of the tick t a sink shows what was kept for t less its delay, nothing if that is less than 0,");
        for (int delay = 0; delay < 10; delay++) {
            Stenohall x = new Stenohall();
            x.sink(delay);
            for (int t = 0; t < 14; t++) {
                Due.entry(x, 0, "" + (char) ('a' + t), 1);
                if (t == 0) {
                    x.stroke(1);
                }
                x.tick();
                Due.is("delay " + delay + ", tick " + t, Due.shown(x, 0), t < delay ? "" : "" + (char) ('a' + t - delay));
            }
        }
        Sentences.of(Sentences.TERMS, "or as long as no tick has ended since it is there;");
        Stenohall x = new Stenohall();
        Due.write(x, "ab");
        x.tick();
        x.tick();
        x.sink(0);
        x.sink(2);
        x.sink(3);
        Due.is("no tick has ended", x.shown(0) + x.shown(1) + x.shown(2), 0);
        x.undo();
        x.tick();
        Due.is("one has ended: kept for it", x.shown(0), 0);
        Due.is("kept before the sink was there", Due.shown(x, 1), "ab");
        Due.is("less than 0", x.shown(2), 0);
        x.tick();
        Due.is("kept for the first tick", Due.shown(x, 2), "ab");
        Due.is("kept before it was there, and taken back", x.takenBack(1), 0);
        x.tick();
        Due.is("nothing is kept for the third tick", x.shown(1), 0);
        Due.is("kept before it was there, and taken back", x.takenBack(1), 2);
    }

    private static void takenBackBehindTheBeginning() {
        Sentences.of(Sentences.TERMS, "whenever that changes, the signs behind the common beginning of both, of what it showed, are taken back, and counted.");
        Stenohall x = new Stenohall();
        x.sink(0);
        String[] texts = {"abcd", "abcd", "abxyz", "abxyzw", "abx", "-abx", "c", "<", "d"};
        int[] counts = {0, 0, 2, 2, 5, 8, 11, 12, 12};
        for (int i = 0; i < texts.length; i++) {
            Due.entry(x, 0, texts[i], 1);
            if (i == 0) {
                x.stroke(1);
            }
            x.tick();
            Due.is("the text " + texts[i], x.takenBack(0), counts[i]);
        }
        x.undo();
        x.stroke(1);
        x.undo();
        x.stroke(1);
        x.tick();
        Due.is("what no tick's end saw", x.takenBack(0), 12);
        for (int delay = 0; delay < 10; delay++) {
            takenBackTickByTick(delay);
        }
    }

    /** Each tick has another text of two letters, whose first one is the same. */
    private static void takenBackTickByTick(int delay) {
        Stenohall x = new Stenohall();
        x.sink(delay);
        x.stroke(1);
        for (int t = 0; t < 24; t++) {
            Due.entry(x, 0, "a" + (char) ('a' + t), 1);
            x.tick();
            Due.is("delay " + delay + ", tick " + t, x.takenBack(0), Math.max(0, t - delay));
        }
    }

    private static void paperAtFirst() {
        Sentences.of(Sentences.TERMS, "Pages have lines of a width, 10 to 80, 40 at first, and so many lines, 2 to 30, 10 at first.");
        Due.is("at first", new Stenohall().paper(10, 2), 4010);
        Stenohall x = Due.written("abcdefghijkl", "abcdefghijkl", "abcdefghijkl", "a");
        Due.is("40 signs", x.lines(), 1);
        Stenohall y = Due.written("abcdefghijkl", "abcdefghijkl", "abcdefghijkl", "ab");
        Due.is("41 signs", y.lines(), 2);
        Stenohall z = Due.written("||||||||||", "||");
        Due.is("ten lines", z.pageOf(9), 0);
        Due.is("the eleventh", z.pageOf(10), 1);
        for (int width : new int[] {10, 80}) {
            Stenohall w = new Stenohall();
            w.paper(width, 2);
            Due.write(w, "^abcdefghij");
            for (int i = 1; i < width / 10; i++) {
                w.stroke(1);
            }
            Due.is("a full line of " + width, w.lines(), 1);
            w.stroke(1);
            Due.is("a piece that is longer", w.lines(), 2);
        }
        for (int lines : new int[] {2, 30}) {
            Stenohall w = new Stenohall();
            w.paper(10, lines);
            Due.entry(w, 0, "|", 1);
            for (int i = 0; i <= lines; i++) {
                w.stroke(1);
            }
            Due.is("the last line of a page of " + lines, w.pageOf(lines - 1), 0);
            Due.is("the first one of the next", w.pageOf(lines), 1);
        }
    }

    private static void pieces() {
        Sentences.of(Sentences.TERMS, "Pieces between blanks and line ends, as they stand in the text, are put into lines, with one blank between, as long as they fit;");
        inLinesOfTen("0000000000", "abcd", "efghi");
        inLinesOfTen("00000111111", "abcd", "efghij");
        inLinesOfTen("000000000001", "abcd", "efghi", "j");
        inLinesOfTen("0000000000", "a,b.c", "defg");
        inLinesOfTen("00000011111", "a,b.c", "defgh");
        inLinesOfTen("0000000000", "ab", "^cd", "efghi");
        inLinesOfTen("0000000000", "??", "abcdefg");
        inLinesOfTen("000000000" + "1111111111", "a", "b", "cdef", "ghijkl", "mno");
        inLinesOfTen("0000" + "1111111", "ab,|", "cdefghi");
    }

    private static void inLinesOfTen(String want, String... contents) {
        Stenohall x = new Stenohall();
        x.paper(10, 2);
        Due.write(x, contents);
        Due.is(String.join(" ", contents), Due.lines(x), want);
    }

    private static void longPieces() {
        Sentences.of(Sentences.TERMS, "one that is longer than a line begins a line, and goes on in the next ones, cut by the width, the last of which further ones can fill.");
        String ten = "abcdefghij";
        inLinesOfTen("0000000000", ten);
        inLinesOfTen("0000000000" + "1", ten, "^k");
        inLinesOfTen("000" + "1111111111", "ab", ten);
        inLinesOfTen("000" + "1111111111" + "2", "ab", ten + "k");
        inLinesOfTen("0000000000" + "1111111111" + "1" + "2", ten, "^" + ten, "k");
        inLinesOfTen("0000000000" + "1" + "1" + "11111111", ten, "^k", "abcdefgh");
        inLinesOfTen("0000000000" + "1" + "1" + "222222222", ten, "^k", "abcdefghi");
        inLinesOfTen("0000000000" + "11" + "1" + "2222222222" + "33", ten + "kl", ten + "kl");
        inLinesOfTen("0000000000" + "1111111111" + "2" + "2" + "2", ten, "^" + ten, "^k", "l");
    }

    private static void lineEnds() {
        Sentences.of(Sentences.TERMS, "A line end ends its line, and no line comes behind one at the end of the text;");
        Due.is("at the end", Due.written("a|").lines(), 1);
        Due.is("not at the end", Due.written("a|b").lines(), 2);
        Due.is("two at the end", Due.written("a||").lines(), 2);
        Due.is("alone", Due.written("|").lines(), 1);
        inLinesOfTen("001", "a|", "b");
        inLinesOfTen("00000000000" + "1", "abcdefghij", "|", "k");
        inLinesOfTen("0000000000" + "11" + "2", "abcdefghijk|", "l");
        inLinesOfTen("0000" + "1111111111", "ab,|", "cdefghijkl");
    }

    private static void brokenBlanks() {
        Sentences.of(Sentences.TERMS, "blanks at which a line is broken, and line ends, are of the line ahead.");
        inLinesOfTen("00000000000" + "1", "abcdefghij", "k");
        inLinesOfTen("00" + "1111111111", "a", "bcdefghijk");
        inLinesOfTen("00" + "1", "a|b");
        inLinesOfTen("0" + "1" + "2" + "3", "|||a");
        Sentences.of(Sentences.TERMS, "An empty text has no line.");
        Due.is("of a new hall", new Stenohall().lines(), 0);
        Due.is("of one whose words are taken away", Due.written("a", "#").lines(), 0);
        Stenohall x = Due.written("a");
        x.undo();
        Due.is("of one whose strokes are undone", x.lines(), 0);
    }

    private static void tick() {
        Sentences.of(30, "Ends a tick. Returns the tick then.");
        Stenohall x = new Stenohall();
        for (int i = 1; i <= 400; i++) {
            Due.is("tick", x.tick(), i);
        }
        Sentences.of(30, "Throws IllegalStateException if 400 have ended");
        x.sink(0);
        x.stroke(1);
        Due.fails("the 401st", IllegalStateException.class, x::tick);
        Due.is("it is the tick 400", x.now(), 400);
        Due.is("none has ended", x.shown(0), 0);
        x.stroke(1);
        Due.is("strokes are made in it", x.time(4), 400);
        Due.fails("once more", IllegalStateException.class, x::tick);
    }

    private static void now() {
        Sentences.of(31, "Returns the tick. Returns the tick.");
        Stenohall x = new Stenohall();
        Due.is("at first", x.now(), 0);
        x.stroke(1);
        Due.is("a stroke ends none", x.now(), 0);
        x.tick();
        Due.is("one has ended", x.now(), 1);
        x.undo();
        Due.is("an undo takes none back", x.now(), 1);
    }

    private static void sink() {
        Sentences.of(32, "Adds a sink. delay: 0 to 9 Returns its number.");
        Stenohall x = new Stenohall();
        int[] delays = {0, 9, 9, 1};
        for (int i = 0; i < 4; i++) {
            Due.is("sink", x.sink(delays[i]), i);
        }
        Sentences.of(32, "Throws IllegalArgumentException if it is out of range");
        for (int delay : new int[] {-1, 10, 11, 400, Integer.MIN_VALUE, Integer.MAX_VALUE}) {
            Due.refuses("sink(" + delay + ")", IllegalArgumentException.class, Halls::rich, y -> y.sink(delay));
        }
        Sentences.of(32, "Throws IllegalStateException if there are 4");
        Due.refuses("a fifth", IllegalStateException.class, y -> {
            for (int delay : delays) {
                y.sink(delay);
            }
            y.stroke(1);
            y.tick();
        }, y -> y.sink(0));
    }

    /** The sinks 0 and 1 show "a|b" and nothing; the text is longer. */
    private static void twoSinks(Stenohall x) {
        x.sink(0);
        x.sink(1);
        Due.write(x, "a|b", "c");
        x.undo();
        x.tick();
        x.stroke(2);
    }

    private static void shown() {
        Sentences.of(33, "Returns how many signs a sink shows. sink: the sink Returns how many.");
        Stenohall x = new Stenohall();
        twoSinks(x);
        Due.is("three", x.shown(0), 3);
        Due.is("none", x.shown(1), 0);
        x.tick();
        Due.is("five", x.shown(0), 5);
        Due.is("three", x.shown(1), 3);
        Sentences.of(33, "Throws IndexOutOfBoundsException if there is no such sink");
        for (int sink : NO_SINKS) {
            Due.refuses("shown(" + sink + ")", IndexOutOfBoundsException.class, TimeSentences::twoSinks, y -> y.shown(sink));
        }
        Due.fails("without any", IndexOutOfBoundsException.class, () -> new Stenohall().shown(0));
    }

    private static void shownAt() {
        Sentences.of(34, "Returns a sign that a sink shows. sink: the sink index: the index, from 0 Returns the sign; a line end as a bar.");
        Stenohall x = new Stenohall();
        twoSinks(x);
        Due.is("the first", x.shownAt(0, 0), 'a');
        Due.is("a line end", x.shownAt(0, 1), '|');
        Due.is("the last", x.shownAt(0, 2), 'b');
        Sentences.of(34, "Throws IndexOutOfBoundsException if there is no such sink");
        for (int sink : NO_SINKS) {
            Due.refuses("shownAt(" + sink + ", 0)", IndexOutOfBoundsException.class, TimeSentences::twoSinks, y -> y.shownAt(sink, 0));
        }
        Sentences.of(34, "Throws NoSuchElementException if there is no such sign");
        for (int index : NO_SIGNS) {
            Due.refuses("shownAt(0, " + index + ")", NoSuchElementException.class, TimeSentences::twoSinks, y -> y.shownAt(0, index));
        }
        Due.refuses("of a sink that shows nothing", NoSuchElementException.class, TimeSentences::twoSinks, y -> y.shownAt(1, 0));
    }

    private static void takenBack() {
        Sentences.of(35, "Returns how many signs a sink took back. sink: the sink Returns how many.");
        Stenohall x = new Stenohall();
        twoSinks(x);
        x.tick();
        x.undo();
        x.tick();
        Due.is("two", x.takenBack(0), 2);
        Due.is("none yet", x.takenBack(1), 0);
        x.undo();
        x.tick();
        Due.is("five", x.takenBack(0), 5);
        Due.is("two", x.takenBack(1), 2);
        Due.is("one that came later", x.takenBack(x.sink(0)), 0);
        Sentences.of(35, "Throws IndexOutOfBoundsException if there is no such sink");
        for (int sink : NO_SINKS) {
            Due.refuses("takenBack(" + sink + ")", IndexOutOfBoundsException.class, TimeSentences::twoSinks, y -> y.takenBack(sink));
        }
        Due.fails("without any", IndexOutOfBoundsException.class, () -> new Stenohall().takenBack(0));
    }

    private static void paper() {
        Sentences.of(36, "Tells the width of lines and how many a page has. width: 10 to 80 lines: 2 to 30 Returns 100 times the width before, and the lines before.");
        Stenohall x = new Stenohall();
        Due.is("as at first", x.paper(10, 2), 4010);
        Due.is("the least", x.paper(80, 30), 1002);
        Due.is("the most", x.paper(11, 29), 8030);
        Due.is("the last ones", x.paper(11, 29), 1129);
        Sentences.of(36, "Throws IllegalArgumentException if a number is out of range");
        int[][] wrong = {{9, 10}, {81, 10}, {40, 1}, {40, 31}, {9, 1}, {81, 31}, {0, 10}, {40, 0}, {-40, 10}, {40, -10},
            {Integer.MIN_VALUE, 10}, {Integer.MAX_VALUE, 10}, {40, Integer.MIN_VALUE}, {40, Integer.MAX_VALUE}};
        for (int[] two : wrong) {
            Due.refuses("paper " + two[0] + " " + two[1], IllegalArgumentException.class, Halls::rich, y -> y.paper(two[0], two[1]));
        }
    }

    private static void lines() {
        Sentences.of(37, "Returns how many lines the text has. Returns how many.");
        Stenohall x = new Stenohall();
        Due.is("none", x.lines(), 0);
        Due.write(x, "abcdefgh", "abcdefgh", "|");
        Due.is("one", x.lines(), 1);
        x.paper(16, 2);
        Due.is("two", x.lines(), 2);
        x.paper(17, 2);
        Due.is("one again", x.lines(), 1);
        x.stroke(1);
        Due.is("behind the line end", x.lines(), 2);
        x.undo();
        x.undo();
        Due.is("undone", x.lines(), 1);
    }

    private static void lineOf() {
        Sentences.of(38, "Returns in which line a sign stands. index: the index, from 0 Returns the line, from 0.");
        Stenohall x = new Stenohall();
        Due.write(x, "abcdefgh", "abcdefgh");
        Due.is("the first line", x.lineOf(0) + x.lineOf(16), 0);
        x.paper(16, 2);
        Due.is("the blank", x.lineOf(8), 0);
        Due.is("the second line", x.lineOf(9), 1);
        Due.is("the last sign", x.lineOf(16), 1);
        Sentences.of(38, "Throws IndexOutOfBoundsException if there is no such sign");
        for (int index : NO_SIGNS) {
            Due.refuses("lineOf(" + index + ")", IndexOutOfBoundsException.class, y -> Due.write(y, "a", "b", "c", "#"), y -> y.lineOf(index));
        }
        Due.fails("of none", IndexOutOfBoundsException.class, () -> new Stenohall().lineOf(0));
    }

    private static void pageOf() {
        Sentences.of(39, "Returns on which page a sign stands. index: the index, from 0 Returns the page, from 0.");
        Stenohall x = Due.written("||||||||||||", "a");
        x.paper(10, 3);
        for (int i = 0; i < 13; i++) {
            Due.is("page of " + i, x.pageOf(i), i / 3);
        }
        x.paper(10, 13);
        Due.is("one page", x.pageOf(12), 0);
        x.paper(10, 12);
        Due.is("two pages", x.pageOf(12), 1);
        Sentences.of(39, "Throws IndexOutOfBoundsException if there is no such sign");
        for (int index : NO_SIGNS) {
            Due.refuses("pageOf(" + index + ")", IndexOutOfBoundsException.class, y -> Due.write(y, "a", "b", "c", "#"), y -> y.pageOf(index));
        }
        Due.fails("of none", IndexOutOfBoundsException.class, () -> new Stenohall().pageOf(0));
    }
}
