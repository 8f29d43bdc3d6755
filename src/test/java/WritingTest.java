/** Promises 17 to 24 and 29: words, rules, and what is written. */
public final class WritingTest {
    public static void main(String[] args) {
        word();
        rule();
        blanks();
        capitals();
        takenWords();
        suffixes();
        ruleE();
        ruleY();
        ruleD();
        ruleS();
        listOfWords();
        joinTimes();
        at();
        words();
        fromOf();
        mostSigns();
        Due.end();
    }

    private static void word() {
        Stenohall x = new Stenohall();
        Due.fails("no sign", UnsupportedOperationException.class, x::word);
        Due.type(x, "a-b");
        Due.fails("no letter", UnsupportedOperationException.class, x::word);
        Due.is("no word", x.isWord(), false);
        x.wipe();
        Due.type(x, "the", 5);
        Due.is("not yet", x.isWord(), false);
        Due.is("word", x.word(), 1);
        Due.is("the stroke stays", x.wipe(), 1);
        Due.is("nothing typed", x.isWord(), false);
        Due.type(x, "the");
        Due.is("now", x.isWord(), true);
        Due.is("again", x.word(), 1);
        Due.type(x, "th");
        Due.is("a part is none", x.isWord(), false);
        x.wipe();
        for (int i = 0; i < 59; i++) {
            Due.words(x, "a" + (char) ('a' + i % 26) + (char) ('a' + i / 26));
        }
        Due.type(x, "the");
        Due.fails("there are 60", IllegalStateException.class, x::word);
        Due.is("it stays typed", x.wipe(), 3);
        x.sign('.');
        Due.fails("no letter comes first", UnsupportedOperationException.class, x::word);
    }

    private static void rule() {
        Stenohall x = new Stenohall();
        for (char c : new char[] {'x', 'E', 'a', 0, 65535}) {
            Due.fails("rule " + (int) c, IllegalArgumentException.class, () -> x.rule(c));
        }
        Due.is("rule s", x.rule('s'), 1);
        Due.is("rule e", x.rule('e'), 2);
        Due.fails("rule s again", UnsupportedOperationException.class, () -> x.rule('s'));
        Due.is("rule y", x.rule('y'), 3);
        Due.is("rule d", x.rule('d'), 4);
        Due.write(x, "bake", "^ing");
        Due.is("joined", Due.text(x), "baking");
        Due.is("forget", x.forget(), 4);
        Due.is("the text is always what the strokes make", Due.text(x), "bakeing");
        Due.is("forget again", x.forget(), 0);
        Due.is("rule e", x.rule('e'), 1);
        Due.is("joined", Due.text(x), "baking");
        Due.words(x, "bakeing");
        Due.is("a word changes it", Due.text(x), "bakeing");
    }

    private static void writes(String want, String... contents) {
        Due.is(String.join(" ", contents), Due.text(Due.written(contents)), want);
    }

    private static void blanks() {
        writes("a b", "a", "b");
        writes("a?? ??b", "a", "^", "??", "??", "^b");
        writes("?? a", "??", "a");
        writes("a|b", "a", "|", "b");
        writes("a|b", "a", "|b");
        writes("a b|", "a", "b|");
        writes("||", "|", "|");
        writes("a, b", "a", ",", "b");
        writes("a,b", "a", ",b");
        writes("a .", "a", "-.");
        writes("a. B", "a", ".", "b");
        writes("ab", "a^", "b");
        writes("ab", "a", "^b");
        writes("ab", "a", "^", "b");
        writes("a B", "a^", "-", "b");
        writes("a b", "a", "=b");
        writes("ab c", "a^b", "c");
        writes("ab", "a=b");
        writes("ab c", "a", "#ab", "c");
        writes("a", "#", "a");
        writes("|a", "|", "a");
        writes("|,", "|", "-,");
        writes("Ab", "a", "<^", "b");
        writes("ab", "a", "b#^", "^b");
    }

    private static void capitals() {
        writes("Abc", "-abc");
        writes("a Bc", "a", "-", "bc");
        writes("aB", "a-b");
        writes("A", "-", "-", "a");
        writes("a?? B", "a", "-^", "??", "b");
        writes("a.|B c", "a", ".", "|", "b", "c");
        writes("The , a", "the", "<,", "a");
        writes("The,", "the", "^<,");
        writes("a The??.", "a", "the^", "??", ".", "<");
        writes("The", "-the", "<");
        writes("", "<");
        writes("A Z Mz a z", "-a", "-z", "-mz", "a", "z");
        writes("Za Az.", "za", "<", "az", "<", ".");
        writes("Z", "z", "<");
        writes("A", "a", "-", "#", "a");
    }

    private static void takenWords() {
        writes("", "#");
        writes("", "a", "#");
        writes("a", "a", "b", "#");
        writes("a", "a", "b", ",", ".", "|", "#");
        writes("a|", "a", "|", "b", "#");
        writes("a|b", "a", "|", "c", "#", "b");
        writes("??", "??", "#");
        writes("??", "??", "a", "#");
        writes("????", "??", "^", "??", "^a", "#");
        writes("a B", "a", "c", ".", "#", "b");
        writes("abc", "a", "bc#^", "^bc");
        writes("b", "a", "#", "b");
    }

    private static void suffixes() {
        writes("cats", "cat", "^s");
        writes("s", "^s");
        writes("a,s", "a", ",", "^s");
        writes("??s", "??", "^s");
        writes("catsBe", "cat", "^s-be");
        writes("catS", "cat", "-", "^s");
        writes("cat|s", "cat", "^|s");
        writes("a|s", "a|", "^s");
        writes("a.S", "a.", "^s");
        Due.is("no letters, no suffix", Due.joined("y", "cry", "", "cri"), "cry");
        Due.is("a command ends the suffix", Due.joined("s", "fox", "s,e"), "foxes,e");
        Due.is("letters behind a command are no suffix", Due.joined("e", "bake", "-ing"), "bakeIng");
        Due.is("'=' is a command", Due.joined("e", "bake", "=ing"), "bakeing");
        Due.is("only at the beginning", Due.text(Due.written("bake", "=^ing")), "bake ing");
    }

    private static void ruleE() {
        Due.is("e", Due.joined("e", "bake", "ing"), "baking");
        Due.is("e by a", Due.joined("e", "bake", "a"), "baka");
        Due.is("e by e", Due.joined("e", "bake", "ed"), "baked");
        Due.is("e by o", Due.joined("e", "bake", "or"), "bakor");
        Due.is("e by u", Due.joined("e", "bake", "u"), "baku");
        Due.is("e by y", Due.joined("e", "bake", "y"), "bakey");
        Due.is("no e", Due.joined("e", "bak", "ing"), "baking");
        Due.is("e alone", Due.joined("e", "e", "ing"), "ing");
        Due.is("not told", Due.joined("ysd", "bake", "ing"), "bakeing");
        Due.is("a capital", Due.joined("e", "bak-e", "ing"), "baking");
        Due.is("those that stay", Due.joined("e", "b-ake", "ing"), "bAking");
    }

    private static void ruleY() {
        Due.is("y", Due.joined("y", "cry", "ed"), "cried");
        Due.is("y by i", Due.joined("y", "cry", "ing"), "crying");
        Due.is("y by s", Due.joined("y", "cry", "s"), "cris");
        Due.is("behind a vowel", Due.joined("y", "play", "ed"), "played");
        Due.is("alone", Due.joined("y", "y", "ed"), "yed");
        Due.is("behind y", Due.joined("y", "yy", "ed"), "yied");
        Due.is("a capital comes small", Due.joined("y", "cr-y", "ed"), "cried");
        Due.is("due for the suffix", Due.joined("y", "cry-", "ed"), "criEd");
        Due.is("no y", Due.joined("y", "cri", "ed"), "cried");
        Due.is("in a word of its own", Due.text(Due.written("a", ",y", "^ed")), "a,yed");
    }

    private static void ruleD() {
        Due.is("d", Due.joined("d", "run", "ing"), "running");
        Due.is("d by s", Due.joined("d", "run", "s"), "runs");
        Due.is("w", Due.joined("d", "row", "ing"), "rowing");
        Due.is("x", Due.joined("d", "box", "ing"), "boxing");
        Due.is("y", Due.joined("d", "toy", "ing"), "toying");
        Due.is("two vowels", Due.joined("d", "rain", "ing"), "raining");
        Due.is("no vowel", Due.joined("d", "burn", "ing"), "burning");
        Due.is("ends in a vowel", Due.joined("d", "ski", "ing"), "skiing");
        Due.is("two letters", Due.joined("d", "in", "ing"), "ining");
        Due.is("y is no vowel", Due.joined("d", "yes", "ing"), "yessing");
        Due.is("a capital", Due.joined("d", "ru-n", "ing"), "ruNning");
        Due.is("due for the suffix", Due.joined("d", "run-", "ing"), "runnIng");
    }

    private static void ruleS() {
        for (String word : new String[] {"bus", "fox", "quiz", "rich", "wish", "s"}) {
            Due.is("s", Due.joined("s", word, "s"), word + "es");
        }
        for (String word : new String[] {"cat", "oh", "th", "h", "cshe"}) {
            Due.is("no s", Due.joined("s", word, "s"), word + "s");
        }
        Due.is("s alone", Due.joined("s", "fox", "sy"), "foxsy");
        Due.is("another suffix", Due.joined("s", "fox", "y"), "foxy");
        Due.is("due for the suffix", Due.joined("s", "fox-", "s"), "foxeS");
        Due.is("a capital", Due.joined("s", "wis-h", "s"), "wisHes");
    }

    private static void listOfWords() {
        Due.is("the plain one is listed", Due.joined("e", "bake", "ing", "bakeing"), "bakeing");
        Due.is("the rule's one too", Due.joined("e", "bake", "ing", "bakeing", "baking"), "baking");
        Due.is("d and the plain one", Due.joined("d", "run", "ing", "running", "runing"), "running");
        Due.is("y and the plain one", Due.joined("y", "cry", "ed", "cryed", "cried"), "cried");
        Due.is("s and the plain one", Due.joined("s", "fox", "s", "foxs", "foxes"), "foxes");
        Due.is("only the plain one is listed", Due.joined("ys", "zy", "s", "zys"), "zys");
        Due.is("capital Z and A", Due.joined("e", "-z-ae", "e", "zae", "zaee"), "ZAe");
        Due.is("the first rule that holds", Due.joined("ys", "cry", "s"), "cris");
        Due.is("none", Due.joined("yd", "yes", "ed"), "yessed");
        Due.is("capitals count as their letters", Due.joined("e", "-bake", "ing", "bakeing"), "Bakeing");
        Due.is("another word", Due.joined("e", "bake", "ing", "bakein", "akeing"), "baking");
        Due.is("plain without rules", Due.joined("", "bake", "ing", "baking"), "bakeing");
        Due.is("a rule that does not hold", Due.joined("sd", "bake", "ing", "baking"), "bakeing");
        Stenohall x = new Stenohall();
        x.rule('e');
        Due.words(x, "aceing");
        Due.write(x, "a", "^ce", "^ing");
        Due.is("the whole word counts", Due.text(x), "aceing");
    }

    private static void joinTimes() {
        Stenohall x = new Stenohall();
        x.rule('y');
        x.rule('d');
        x.rule('s');
        Due.entry(x, 0, "cry", 1);
        Due.entry(x, 0, "^ed", 2);
        Due.entry(x, 0, "run", 3);
        Due.entry(x, 0, "fox", 4);
        Due.entry(x, 0, "^s", 5);
        Due.entry(x, 0, "<", 6);
        for (int stroke : new int[] {1, 2, 3, 2, 4, 5, 6}) {
            x.stroke(stroke);
            x.tick();
        }
        Due.is("text", Due.text(x), "cried runned Foxes");
        Due.is("times", Due.times(x), "001112222333464455");
        Due.is("fromOf", x.fromOf(1), 2);
        Due.is("fromOf", x.fromOf(3), 9);
        Due.is("fromOf", x.fromOf(4), 12);
        Due.is("fromOf", x.fromOf(5), 16);
        Due.is("fromOf", x.fromOf(6), 13);
        Due.entry(x, 0, "of", 7, 8);
        x.stroke(7);
        x.tick();
        x.stroke(8);
        Due.is("the last stroke", Due.times(x), "001112222333464455888");
        Due.fails("time(-1)", IndexOutOfBoundsException.class, () -> x.time(-1));
        Due.fails("time(21)", IndexOutOfBoundsException.class, () -> x.time(21));
        Due.is("time(20)", x.time(20), 8);
    }

    private static void at() {
        Stenohall x = Due.written("a|b");
        Due.is("length", x.length(), 3);
        Due.is("a line end", x.at(1), '|');
        Due.is("at(2)", x.at(2), 'b');
        Due.fails("at(3)", IndexOutOfBoundsException.class, () -> x.at(3));
        Due.fails("at(-1)", IndexOutOfBoundsException.class, () -> x.at(-1));
        Due.fails("at(most)", IndexOutOfBoundsException.class, () -> x.at(Integer.MAX_VALUE));
    }

    private static void words() {
        Due.is("none", new Stenohall().words(), 0);
        Due.is("a miss is none", Due.written("??").words(), 0);
        Due.is("four", Due.written("a", "bc,d", "??", "^e", "^f").words(), 4);
        Due.is("line ends", Due.written("a|b||", "^c").words(), 3);
    }

    private static void fromOf() {
        Stenohall x = Due.written("a", "b", "#", "^", "|c", "d", "<", ".");
        Due.is("text", Due.text(x), "a|c D.");
        Due.is("fromOf(0)", x.fromOf(0), 0);
        Due.is("what it wrote is gone", x.fromOf(1), -1);
        Due.is("it wrote nothing", x.fromOf(2), -1);
        Due.is("it wrote nothing", x.fromOf(3), -1);
        Due.is("fromOf(4)", x.fromOf(4), 1);
        Due.is("a blank too", x.fromOf(5), 3);
        Due.is("a capital", x.fromOf(6), 4);
        Due.is("fromOf(7)", x.fromOf(7), 5);
        Due.fails("fromOf(8)", IndexOutOfBoundsException.class, () -> x.fromOf(8));
        Due.fails("fromOf(-1)", IndexOutOfBoundsException.class, () -> x.fromOf(-1));
        Stenohall y = Due.written("a", "<");
        Due.is("its only letter is another one's", y.fromOf(0), -1);
        Due.is("whose", y.fromOf(1), 0);
        Stenohall z = Due.written("-a", "<");
        Due.is("it is a capital yet", z.fromOf(1), -1);
    }

    private static void mostSigns() {
        Stenohall x = new Stenohall();
        Due.entry(x, 0, "abcdefghijkl", 1);
        for (int i = 0; i < 100; i++) {
            x.stroke(1);
        }
        Due.is("100 whole contents", x.length(), 1299);
        Due.is("the last one", x.fromOf(99), 1286);
        Due.is("words", x.words(), 100);
        Due.is("sound", x.isSound(), true);
        Due.entry(x, 0, "-a-b-c-d-e-f", 1);
        Due.is("all capitals", x.brailleLength(), 100 * 12 + 99);
        Due.entry(x, 0, "^abcdefghijk", 1);
        x.paper(10, 2);
        Due.is("one long piece", x.lines(), 110);
        Due.is("one long word", x.words(), 1);
        Due.is("sound", x.isSound(), true);
    }
}
