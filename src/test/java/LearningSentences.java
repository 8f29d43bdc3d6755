import java.util.NoSuchElementException;

/** Promises 40 to 49, and what the terms say of braille, of learning and of exceptions, sentence by sentence. */
final class LearningSentences {
    private static final int[] NO_STROKES = {0, -1, 65536, 65537, Integer.MIN_VALUE, Integer.MAX_VALUE};

    private LearningSentences() {
    }

    static void run() {
        cells();
        twentyContractions();
        longestContraction();
        capitalsInContractions();
        readsBack();
        missedStrokes();
        nearestOutline();
        savings();
        nothingChanges();
        firstListed();
        contract();
        contractRefused();
        brailleLength();
        cellAt();
        misses();
        nearest();
        saving();
        brief();
        delay();
        checksum();
        isSound();
        stillSound();
        lastCalls();
    }

    private static int contract(Stenohall x, String letters, int cell) {
        Due.type(x, letters);
        return x.contract(cell);
    }

    private static void cellsOf(String want, String... contents) {
        Due.is(String.join(" ", contents), Due.cells(Due.written(contents)), want);
    }

    private static void cells() {
        Sentences.of(Sentences.TERMS, "Letters are the cells 1 to 26, a blank 0, a line end 66, a full stop 67, a comma 68, a question mark 69;");
        for (char letter = 'a'; letter <= 'z'; letter++) {
            cellsOf("" + (letter - 'a' + 1), "" + letter);
        }
        cellsOf("1 0 2", "a", "b");
        cellsOf("66 66", "||");
        cellsOf("67", ".");
        cellsOf("68", ",");
        cellsOf("69 69", "??");
        Sentences.of(Sentences.TERMS, "ahead of a capital comes the cell 64.");
        for (char letter = 'a'; letter <= 'z'; letter++) {
            cellsOf("64 " + (letter - 'a' + 1), "-" + letter);
        }
        cellsOf("64 1 64 26 2", "-a-zb");
    }

    private static void twentyContractions() {
        Sentences.of(Sentences.TERMS, "At most 20 contractions are told, each a row of 2 to 4 letters for a cell of 27 to 63, each cell once, each row once.");
        Stenohall x = new Stenohall();
        Due.is("two letters, the least cell", contract(x, "zz", 27), 1);
        Due.is("four letters, the greatest cell", contract(x, "zzzz", 63), 2);
        Due.is("three letters", contract(x, "zzz", 40), 3);
        Due.type(x, "yy");
        for (int cell : new int[] {27, 63, 40}) {
            Due.fails("each cell once", UnsupportedOperationException.class, () -> x.contract(cell));
        }
        x.wipe();
        for (String row : new String[] {"zz", "zzz", "zzzz"}) {
            Due.type(x, row);
            Due.fails("each row once", UnsupportedOperationException.class, () -> x.contract(50));
            x.wipe();
        }
        Halls.contractions(x, 17);
        Due.write(x, "zz", "zzzz", "zzz", "aa", "qa");
        Due.is("twenty of them", Due.cells(x), "27 0 63 0 40 0 41 0 57");
        Due.type(x, "yy");
        Due.fails("a 21st", IllegalStateException.class, () -> x.contract(62));
    }

    private static void longestContraction() {
        Sentences.of(Sentences.TERMS, "In a word each time the longest contraction that begins there is taken, of its letters as small ones;");
        Stenohall x = new Stenohall();
        Due.write(x, "abcd", "abce", "abde", "xab", "a", "^b", "-ab", "a,b", "a|b", "ababab", "a");
        String single = "1 2 3 4 0 1 2 3 5 0 1 2 4 5 0 24 1 2 0 1 2 0 64 1 2 0 1 68 2 0 1 66 2 0 1 2 1 2 1 2 0 1";
        Due.is("without any", Due.cells(x), single);
        contract(x, "abc", 31);
        Due.is("of three", Due.cells(x), "31 4 0 31 5 0 " + single.substring(20));
        contract(x, "ab", 30);
        contract(x, "abcd", 32);
        contract(x, "bc", 33);
        Due.is("the longest", Due.cells(x), "32 0 31 5 0 30 4 5 0 24 30 0 30 0 64 30 0 1 68 2 0 1 66 2 0 30 30 30 0 1");
        Stenohall y = new Stenohall();
        contract(y, "ab", 30);
        contract(y, "bcde", 31);
        Due.write(y, "abcde");
        Due.is("that which begins there", Due.cells(y), "30 3 4 5");
        Stenohall z = new Stenohall();
        contract(z, "ab", 30);
        Due.write(z, "a", "b");
        Due.is("not over a blank", Due.cells(z), "1 0 2");
    }

    private static void capitalsInContractions() {
        Sentences.of(Sentences.TERMS, "one with a capital behind its first letter is not taken.");
        Stenohall x = new Stenohall();
        contract(x, "abc", 31);
        contract(x, "ab", 30);
        Due.write(x, "-abc", "a-bc", "ab-c", "-a-b-c", "abc-a");
        Due.is("text", Due.text(x), "Abc aBc abC ABC abcA");
        Due.is("cells", Due.cells(x), "64 31 0 1 64 2 3 0 30 64 3 0 64 1 64 2 64 3 0 31 64 1");
    }

    private static void readsBack() {
        Sentences.of(Sentences.TERMS, "Read back, cells give the text again.");
        Stenohall x = new Stenohall();
        contract(x, "abc", 63);
        contract(x, "ab", 27);
        Due.write(x, "-abc", "a-bc", "ab-c|", "-a-b-c", "??", ".,", "abc-a-z");
        Due.is("sound", x.isSound(), true);
    }

    private static void missedStrokes() {
        Sentences.of(Sentences.TERMS, "Of misses each stroke counts once.");
        Stenohall x = new Stenohall();
        Due.strokes(x, 7);
        Due.is("one", x.misses(), 1);
        Due.strokes(x, 7, 7);
        Due.is("the same", x.misses(), 1);
        Due.strokes(x, 8, 7, 8);
        Due.is("two", x.misses(), 2);
    }

    private static void nearestOutline() {
        Sentences.of(Sentences.TERMS, "The nearest outline of a miss is the one-stroke outline of a layer that is on with fewest keys unlike, of several the least stroke.");
        Stenohall x = new Stenohall();
        Due.entry(x, 0, "a", 3, 3);
        Due.entry(x, 0, "a", 48);
        Due.is("two strokes are no one-stroke outline", x.nearest(3), 48);
        Due.entry(x, 3, "a", 15);
        Due.is("two keys unlike, four for 48", x.nearest(3), 15);
        Due.entry(x, 2, "a", 7);
        Due.is("one key unlike", x.nearest(3), 7);
        x.turn(2, false);
        Due.is("off", x.nearest(3), 15);
        x.turn(2, true);
        Due.entry(x, 1, "a", 2);
        Due.is("of several the least", x.nearest(3), 2);
        Due.entry(x, 1, "a", 3);
        Due.is("the stroke itself", x.nearest(3), 3);
        for (int[] outlines : new int[][] {{1, 2, 7}, {7, 2, 1}, {2, 1, 7}, {1, 7, 2}}) {
            Stenohall z = new Stenohall();
            for (int i = 0; i < 3; i++) {
                Due.entry(z, i, "a", outlines[i]);
            }
            Due.is("the least, told first, last or between", z.nearest(3), 1);
            Stenohall w = new Stenohall();
            for (int outline : outlines) {
                Due.entry(w, 3, "a", outline);
            }
            Due.is("the least of one layer", w.nearest(3), 1);
        }
        Stenohall y = new Stenohall();
        Due.entry(y, 0, "a", 1);
        Due.is("all keys unlike", y.nearest(65534), 1);
        Due.entry(y, 0, "a", 65534);
        Due.is("none", y.nearest(65534), 65534);
        Due.is("the greatest key", y.nearest(32768), 1);
    }

    private static void savings() {
        Sentences.of(Sentences.TERMS, "The saving of a content is how often translations with an entry have it, be it an entry's own or that of an alternative, times the number of strokes of the last such translation less 1.");
        Stenohall x = new Stenohall();
        Due.entry(x, 0, "cat", 1, 2, 3);
        Due.entry(x, 2, "cat", 4, 5);
        Due.entry(x, 0, "he", 6, 6);
        Due.type(x, "cat", 6, 6);
        x.alternative(0, 'd');
        Due.entry(x, 0, "dog", 7);
        Due.strokes(x, 1, 2, 3);
        Due.is("once, of three strokes", x.saving(), 2);
        Due.strokes(x, 1, 2, 3);
        Due.is("twice, of three strokes", x.saving(), 4);
        Due.strokes(x, 4, 5);
        Due.is("three times, the last of two strokes", x.saving(), 3);
        Due.strokes(x, 6, 6);
        Due.is("another content", x.saving(), 3);
        x.stroke(7);
        Due.is("by an alternative four times, of two strokes", x.saving(), 4);
        Stenohall y = new Stenohall();
        Due.entry(y, 0, "cat", 1, 2);
        Due.entry(y, 0, "cats", 3, 4);
        Due.strokes(y, 1, 2, 3, 4);
        Due.is("unlike contents", y.saving(), 1);
        Due.entry(y, 0, "cat", 5);
        y.stroke(5);
        Due.is("the last one of one stroke", y.saving(), 1);
        Due.strokes(y, 9, 9, 9);
        Due.is("misses don't count", y.saving(), 1);
    }

    /** The rich hall can refuse each of them; those that need another one are tried with their promises. */
    private static void nothingChanges() {
        Sentences.of(Sentences.TERMS, "A method that throws an exception changes nothing.");
        Due.refuses("mode", IllegalStateException.class, Halls::rich, y -> y.mode('f'));
        Due.refuses("down", UnsupportedOperationException.class, Halls::rich, y -> y.down(6));
        Due.refuses("up", UnsupportedOperationException.class, Halls::rich, y -> y.up(4));
        Due.refuses("stroke", IllegalArgumentException.class, Halls::rich, y -> y.stroke(0));
        Due.refuses("strokeAt", IndexOutOfBoundsException.class, Halls::rich, y -> y.strokeAt(99));
        Due.refuses("chord", IllegalArgumentException.class, Halls::rich, y -> y.chord(0));
        Due.refuses("sign", IllegalArgumentException.class, Halls::rich, y -> y.sign('A'));
        Due.refuses("entry", IndexOutOfBoundsException.class, Halls::rich, y -> y.entry(4));
        Due.refuses("alternative", UnsupportedOperationException.class, Halls::rich, y -> y.alternative(0, 'a'));
        Due.refuses("remove", IndexOutOfBoundsException.class, Halls::rich, y -> y.remove(4));
        Due.refuses("turn", IndexOutOfBoundsException.class, Halls::rich, y -> y.turn(4, false));
        Due.refuses("word", UnsupportedOperationException.class, y -> {
            Halls.rich(y);
            y.sign('-');
        }, Stenohall::word);
        Due.refuses("rule", UnsupportedOperationException.class, Halls::rich, y -> y.rule('s'));
        Due.refuses("sink", IllegalArgumentException.class, Halls::rich, y -> y.sink(10));
        Due.refuses("shownAt", NoSuchElementException.class, Halls::rich, y -> y.shownAt(0, 99));
        Due.refuses("paper", IllegalArgumentException.class, Halls::rich, y -> y.paper(11, 31));
        Due.refuses("contract", UnsupportedOperationException.class, Halls::rich, y -> y.contract(40));
        Due.refuses("cellAt", IndexOutOfBoundsException.class, Halls::rich, y -> y.cellAt(99));
        Due.refuses("nearest", IllegalArgumentException.class, Halls::rich, y -> y.nearest(0));
    }

    private static void firstListed() {
        Sentences.of(Sentences.TERMS, "If several exceptions apply, the one that is listed first is thrown.");
        Due.refuses("mode: none, a key down", IllegalArgumentException.class, y -> y.down(1), y -> y.mode('x'));
        Due.refuses("up: a key that is up, 100 strokes", UnsupportedOperationException.class, Halls::fullByFirst, y -> y.up(5));
        Due.refuses("up: no key, 100 strokes", IndexOutOfBoundsException.class, Halls::fullByFirst, y -> y.up(16));
        Due.refuses("stroke: none, 100 strokes", IllegalArgumentException.class, Halls::full, y -> y.stroke(0));
        Due.refuses("chord: no stroke, 4 typed", IllegalArgumentException.class, y -> Due.type(y, "", 1, 2, 3, 4), y -> y.chord(65536));
        Due.refuses("sign: none, 12 typed", IllegalArgumentException.class, y -> Due.type(y, "abcdefghijkl"), y -> y.sign('?'));
        Due.refuses("entry: no layer, nothing typed", IndexOutOfBoundsException.class, y -> y.stroke(1), y -> y.entry(4));
        Due.refuses("entry: no stroke typed, 40", UnsupportedOperationException.class, y -> {
            Halls.fortyEntries(y, 2);
            Due.type(y, "b");
        }, y -> y.entry(2));
        Due.refuses("entry: no sign typed, 40", UnsupportedOperationException.class, y -> {
            Halls.fortyEntries(y, 2);
            Due.type(y, "", 1, 1);
        }, y -> y.entry(2));
        Due.refuses("alternative: no layer, no letter", IndexOutOfBoundsException.class, Halls::threeAlternatives, y -> y.alternative(4, '?'));
        Due.refuses("alternative: no layer, nothing typed", IndexOutOfBoundsException.class, y -> y.stroke(1), y -> y.alternative(-1, 'a'));
        Due.refuses("alternative: no letter, nothing typed", IllegalArgumentException.class, y -> y.stroke(1), y -> y.alternative(0, '?'));
        Due.refuses("alternative: no letter, 3", IllegalArgumentException.class, Halls::threeAlternatives, y -> y.alternative(0, 'A'));
        Due.refuses("alternative: no sign typed, 3", UnsupportedOperationException.class, y -> {
            Halls.threeAlternatives(y);
            y.wipe();
            y.chord(1);
        }, y -> y.alternative(0, 'a'));
        Due.refuses("word: no letter, 60", UnsupportedOperationException.class, y -> {
            Halls.words(y, 60);
            Due.type(y, "a-");
        }, Stenohall::word);
        Due.refuses("word: nothing typed, 60", UnsupportedOperationException.class, y -> Halls.words(y, 60), Stenohall::word);
        Due.refuses("sink: no delay, 4", IllegalArgumentException.class, y -> {
            for (int i = 0; i < 4; i++) {
                y.sink(i);
            }
        }, y -> y.sink(10));
        Due.refuses("shownAt: no sink, no sign", IndexOutOfBoundsException.class, y -> y.sink(0), y -> y.shownAt(1, -1));
        Due.refuses("contract: no cell, one letter", IllegalArgumentException.class, y -> Due.type(y, "a"), y -> y.contract(64));
        Due.refuses("contract: no cell, 20", IllegalArgumentException.class, LearningSentences::twenty, y -> y.contract(26));
        Due.refuses("contract: a told cell, 20", UnsupportedOperationException.class, LearningSentences::twenty, y -> y.contract(41));
        Due.refuses("contract: told letters, 20", UnsupportedOperationException.class, y -> {
            Halls.contractions(y, 20);
            Due.type(y, "aa");
        }, y -> y.contract(63));
        Due.refuses("contract: one letter, 20", UnsupportedOperationException.class, y -> {
            Halls.contractions(y, 20);
            Due.type(y, "a");
        }, y -> y.contract(63));
        Due.refuses("nearest: no stroke, no outline", IllegalArgumentException.class, y -> y.stroke(1), y -> y.nearest(0));
    }

    /** Twenty contractions, and four letters that are none are typed. */
    private static void twenty(Stenohall x) {
        Halls.contractions(x, 20);
        Due.type(x, "abcd", 1);
    }

    private static void contract() {
        Sentences.of(40, "Makes a contraction of the typed signs, which are gone; typed strokes stay. cell: 27 to 63 Returns how many there are.");
        Stenohall x = new Stenohall();
        Due.write(x, "abcd");
        Due.is("letters", Due.cells(x), "1 2 3 4");
        Due.type(x, "bc", 5, 6);
        Due.is("one", x.contract(27), 1);
        Due.is("the signs are gone, the strokes stay", x.wipe(), 2);
        Due.is("at once", Due.cells(x), "1 27 4");
        Due.type(x, "abcd");
        Due.is("two", x.contract(63), 2);
        Due.is("gone", x.wipe(), 0);
        Due.is("at once", Due.cells(x), "63");
    }

    private static void contractRefused() {
        Sentences.of(40, "Throws IllegalArgumentException if it is out of range");
        for (int cell : new int[] {26, 64, 0, 1, -27, 66, Integer.MIN_VALUE, Integer.MAX_VALUE}) {
            Due.refuses("cell " + cell, IllegalArgumentException.class, Halls::rich, y -> y.contract(cell));
        }
        Sentences.of(40, "Throws UnsupportedOperationException if fewer than 2 or more than 4 signs are typed, one is no letter, or there is one for this cell or these letters");
        for (String typed : new String[] {"", "a", "abcde", "abcdefghijkl", "-a", "a-", "a.b", "ab,d", "a=bc", "^abc", "|a", "a#", "<a"}) {
            Due.refuses("the signs " + typed, UnsupportedOperationException.class, y -> Due.type(y, typed, 1), y -> y.contract(30));
        }
        for (int cell : new int[] {41, 59}) {
            Due.refuses("the cell " + cell, UnsupportedOperationException.class, y -> {
                Halls.contractions(y, 19);
                Due.type(y, "abcd", 1);
            }, y -> y.contract(cell));
        }
        for (String row : new String[] {"aa", "sa"}) {
            Due.refuses("the letters " + row, UnsupportedOperationException.class, y -> {
                Halls.contractions(y, 19);
                Due.type(y, row, 1);
            }, y -> y.contract(30));
        }
        Stenohall x = new Stenohall();
        contract(x, "abc", 30);
        Due.is("its beginning is another row", contract(x, "ab", 31), 2);
        Due.is("so is a longer one", contract(x, "abcd", 32), 3);
        Sentences.of(40, "Throws IllegalStateException if there are 20");
        Due.refuses("a 21st", IllegalStateException.class, LearningSentences::twenty, y -> y.contract(63));
        Stenohall y = new Stenohall();
        Halls.contractions(y, 19);
        Due.is("the 20th", contract(y, "abcd", 63), 20);
    }

    private static void brailleLength() {
        Sentences.of(41, "Returns how many cells the text has in braille. Returns how many.");
        Stenohall x = new Stenohall();
        Due.is("none", x.brailleLength(), 0);
        Due.write(x, "-a-bcd", "??");
        Due.is("letters, capitals, a blank and a miss", x.brailleLength(), 9);
        contract(x, "cd", 30);
        Due.is("contracted", x.brailleLength(), 8);
        x.undo();
        Due.is("one undone", x.brailleLength(), 5);
        Stenohall y = new Stenohall();
        Due.entry(y, 0, "-a-b-c-d-e-f", 1);
        for (int i = 0; i < 100; i++) {
            y.stroke(1);
        }
        Due.is("the most there can be of capitals", y.brailleLength(), 1299);
        Due.is("the last of them", y.cellAt(1298), 6);
        Stenohall z = new Stenohall();
        Due.entry(z, 0, "a.b.c.d.e.f.", 1);
        for (int i = 0; i < 100; i++) {
            z.stroke(1);
        }
        Due.is("more cells than signs there can be", z.brailleLength(), 17 + 99 * 19);
        Due.is("the last letter of them", z.cellAt(1896), 6);
        Due.is("the last of them", z.cellAt(1897), 67);
        Due.is("sound", z.isSound(), true);
    }

    private static void cellAt() {
        Sentences.of(42, "Returns a cell. index: the index, from 0 Returns the cell.");
        Stenohall x = Due.written("-a", "z|");
        Due.is("the first", x.cellAt(0), 64);
        Due.is("a letter", x.cellAt(1), 1);
        Due.is("a blank", x.cellAt(2), 0);
        Due.is("the last", x.cellAt(4), 66);
        Sentences.of(42, "Throws IndexOutOfBoundsException if there is no such cell");
        for (int index : new int[] {-1, 3, 4, 5, 2600, Integer.MIN_VALUE, Integer.MAX_VALUE}) {
            Due.refuses("cellAt(" + index + ")", IndexOutOfBoundsException.class, y -> {
                Due.write(y, "abcd", "e");
                contract(y, "abcd", 30);
            }, y -> y.cellAt(index));
        }
        Due.fails("of none", IndexOutOfBoundsException.class, () -> new Stenohall().cellAt(0));
    }

    private static void misses() {
        Sentences.of(43, "Returns how many unlike strokes are misses. Returns how many.");
        Stenohall x = new Stenohall();
        Due.is("none", x.misses(), 0);
        Due.strokes(x, 1, 2, 1, 65535);
        Due.is("three", x.misses(), 3);
        Due.entry(x, 0, "a", 2, 1);
        Due.is("a translation of both is none", x.misses(), 2);
        Due.entry(x, 0, "a", 1);
        Due.is("one", x.misses(), 1);
        x.undo();
        Due.is("none", x.misses(), 0);
        Stenohall y = new Stenohall();
        Halls.strokes(y, 100);
        Due.is("a hundred", y.misses(), 100);
    }

    private static void nearest() {
        Sentences.of(44, "Returns the nearest outline of a stroke. stroke: the keys, as bits Returns the stroke of the outline.");
        Stenohall x = new Stenohall();
        Due.entry(x, 0, "a", 1);
        Due.entry(x, 3, "b", 65535);
        Due.is("the least stroke", x.nearest(1), 1);
        Due.is("the greatest", x.nearest(65535), 65535);
        Due.is("one without entry", x.nearest(3), 1);
        Sentences.of(44, "Throws IllegalArgumentException if it is out of range");
        for (int stroke : NO_STROKES) {
            Due.refuses("nearest(" + stroke + ")", IllegalArgumentException.class, Halls::rich, y -> y.nearest(stroke));
        }
        Sentences.of(44, "Throws NoSuchElementException if there is no such outline");
        Due.refuses("no entry", NoSuchElementException.class, y -> y.stroke(1), y -> y.nearest(1));
        Due.refuses("longer ones", NoSuchElementException.class, y -> Due.entry(y, 0, "a", 1, 1), y -> y.nearest(1));
        Due.refuses("off", NoSuchElementException.class, y -> {
            Due.entry(y, 0, "a", 1);
            y.turn(0, false);
        }, y -> y.nearest(1));
        Due.refuses("removed", NoSuchElementException.class, y -> {
            Due.entry(y, 0, "a", 1);
            y.chord(1);
            y.remove(0);
        }, y -> y.nearest(1));
    }

    private static void saving() {
        Sentences.of(45, "Returns the greatest saving of a content. Returns the saving, 0 without any.");
        Stenohall x = new Stenohall();
        Due.is("no translation", x.saving(), 0);
        Due.strokes(x, 9, 9);
        Due.is("misses alone", x.saving(), 0);
        Due.entry(x, 0, "a", 1);
        Due.strokes(x, 1, 1);
        Due.is("one stroke each", x.saving(), 0);
        Due.entry(x, 0, "b", 2, 2);
        Due.entry(x, 0, "c", 3, 3, 3);
        Due.strokes(x, 2, 2);
        Due.is("one", x.saving(), 1);
        Due.strokes(x, 3, 3, 3);
        Due.is("the greatest is the last", x.saving(), 2);
        Due.strokes(x, 2, 2, 2, 2);
        Due.is("the greatest is the first", x.saving(), 3);
        Stenohall y = new Stenohall();
        Due.entry(y, 0, "d", 1, 1, 1, 1);
        for (int i = 0; i < 100; i++) {
            y.stroke(1);
        }
        Due.is("the most there can be", y.saving(), 75);
    }

    private static void brief() {
        Sentences.of(46, "Returns how many signs there are for each stroke. Returns the signs divided by the strokes, both converted to float.");
        Stenohall x = new Stenohall();
        x.stroke(1);
        Due.is("two by one", x.brief(), 2f);
        x.stroke(1);
        Due.is("five by two", x.brief(), 2.5f);
        x.stroke(1);
        Due.is("eight by three", x.brief(), 8f / 3f);
        Due.entry(x, 0, "-", 1);
        Due.is("none by three", x.brief(), 0f);
        Sentences.of(46, "Throws ArithmeticException if there are no strokes");
        Due.refuses("no strokes", ArithmeticException.class, y -> Due.entry(y, 0, "a", 1), Stenohall::brief);
        Due.refuses("all undone", ArithmeticException.class, y -> {
            y.stroke(1);
            y.undo();
        }, Stenohall::brief);
    }

    private static void delay() {
        Sentences.of(47, "Returns the mean time between strokes. Returns the tick of the last one less that of the first one, divided by their number less 1, both converted to double.");
        Stenohall x = new Stenohall();
        x.tick();
        x.stroke(1);
        x.stroke(1);
        Due.is("0 by 1", x.delay(), 0.0);
        x.tick();
        x.stroke(1);
        Due.is("1 by 2", x.delay(), 0.5);
        x.stroke(1);
        Due.is("1 by 3", x.delay(), 1.0 / 3.0);
        x.tick();
        x.tick();
        Due.is("ticks alone don't count", x.delay(), 1.0 / 3.0);
        x.undo();
        x.undo();
        Due.is("nor do strokes undone", x.delay(), 0.0);
        Stenohall z = new Stenohall();
        z.stroke(1);
        for (int i = 0; i < 400; i++) {
            z.tick();
        }
        z.stroke(1);
        Due.is("400 by 1", z.delay(), 400.0);
        Sentences.of(47, "Throws ArithmeticException if there are fewer than two");
        Due.refuses("none", ArithmeticException.class, y -> y.tick(), Stenohall::delay);
        Due.refuses("one", ArithmeticException.class, y -> y.stroke(1), Stenohall::delay);
        Due.refuses("one left", ArithmeticException.class, y -> {
            Due.strokes(y, 1, 2);
            y.undo();
        }, Stenohall::delay);
    }

    private static void checksum() {
        Sentences.of(48, "Returns a sum over the text. Returns 7 at first, then for each sign 31 times itself plus the sign as a number, a line end being 10; then for each translation 31 times itself plus its strokes.");
        Due.is("at first", new Stenohall().checksum(), 7L);
        Due.is("a letter", Due.written("a").checksum(), (7L * 31 + 'a') * 31 + 1);
        Due.is("a line end", Due.written("|").checksum(), (7L * 31 + 10) * 31 + 1);
        Due.is("a capital, and a miss", Due.written("-z", "??").checksum(),
                (((((7L * 31 + 'Z') * 31 + ' ') * 31 + '?') * 31 + '?') * 31 + 1) * 31 + 1);
        Stenohall x = new Stenohall();
        Due.entry(x, 0, "-", 1, 1, 1, 1);
        Due.strokes(x, 1, 1, 1, 1);
        Due.is("how many strokes it has", x.checksum(), 7L * 31 + 4);
        Stenohall y = new Stenohall();
        long due = 7;
        for (int i = 0; i < 100; i++) {
            y.stroke(1);
            due = (due * 31 + '?') * 31 + '?';
            due = i < 99 ? due * 31 + ' ' : due;
        }
        for (int i = 0; i < 100; i++) {
            due = due * 31 + 1;
        }
        Due.is("a sum that wraps around", y.checksum(), due);
    }

    private static void isSound() {
        Sentences.of(49, "Returns whether all is sound: translated stroke by stroke the strokes make the same text;");
        Stenohall x = new Stenohall();
        Due.is("a new hall", x.isSound(), true);
        Halls.rich(x);
        Due.is("a rich one", x.isSound(), true);
        x.stroke(1);
        x.stroke(2);
        Due.is("with an outline of two", x.isSound(), true);
        x.undo();
        Due.is("undone", x.isSound(), true);
        Sentences.of(49, "braille reads back;");
        Stenohall y = new Stenohall();
        contract(y, "ab", 30);
        contract(y, "abc", 31);
        Due.write(y, "-abc", "a-b", "ab-c", "??", ",.|", "-a-b-c", "xyz");
        Due.is("with all kinds of cells", y.isSound(), true);
    }

    private static void stillSound() {
        Sentences.of(49, "each sign has the time of some stroke that is kept;");
        Stenohall x = new Stenohall();
        x.rule('y');
        Due.entry(x, 0, "cry", 1);
        Due.entry(x, 0, "^ed", 2, 3);
        Due.entry(x, 0, "<", 4);
        for (int stroke : new int[] {1, 2, 3, 4}) {
            x.stroke(stroke);
            x.tick();
            Due.is("by ticks", x.isSound(), true);
        }
        Due.entry(x, 0, "=", 4);
        Due.is("two of them undone", x.isSound(), true);
        Due.is("times", Due.times(x), "000111");
        Sentences.of(49, "and a sink without a delay shows what was kept last. Returns true if so.");
        x.sink(0);
        x.sink(3);
        Due.is("no tick has ended for them", x.isSound(), true);
        x.tick();
        Due.is("what was kept last", Due.shown(x, 0), Due.text(x));
        Due.is("one has", x.isSound(), true);
        x.undo();
        Due.is("the text is another one since", x.isSound(), true);
        x.tick();
        Due.is("and was kept", x.isSound(), true);
    }

    /** 100 strokes, 400 ticks and a dozen others: each answer is due as that of the first calls is. */
    private static void lastCalls() {
        Due.by("An object is used for at most 512 calls after it has been made");
        Stenohall x = new Stenohall();
        x.sink(9);
        Due.entry(x, 0, "ab", 1);
        for (int i = 0; i < 100; i++) {
            Due.is("stroke", x.stroke(1), i + 1);
            for (int k = 0; k < 4; k++) {
                Due.is("tick", x.tick(), 4 * i + k + 1);
            }
        }
        Due.is("call 506", x.length(), 299);
        Due.is("call 507", x.time(298), 396);
        Due.is("call 508", x.shown(0), 98 * 3 - 1);
        Due.is("call 509", x.takenBack(0), 0);
        Due.fails("call 510", IllegalStateException.class, () -> x.stroke(1));
        Due.fails("call 511", IllegalStateException.class, x::tick);
        Due.is("call 512", x.isSound(), true);
    }
}
