/** Promises 17 to 24 and 29, and what the terms say of the text and of writing, sentence by sentence. */
final class WritingSentences {
    private WritingSentences() {
    }

    static void run() {
        always();
        signBySign();
        blanks();
        noBlanks();
        gluedBlanks();
        lettersInARow();
        suffixes();
        capitals();
        lastWords();
        stops();
        takenWords();
        lineEnds();
        equalsSigns();
        joinedToWords();
        rulesInOrder();
        ruleE();
        ruleY();
        ruleD();
        ruleS();
        listedJoins();
        capitalsOfJoins();
        word();
        wordRefused();
        isWord();
        rule();
        forget();
        length();
        at();
        time();
        words();
        fromOf();
    }

    private static void writes(String want, String... contents) {
        Due.is(String.join(" ", contents), Due.text(Due.written(contents)), want);
    }

    private static void joins(String want, String rules, String word, String suffix, String... words) {
        Due.is(word + " and " + suffix + " by " + rules, Due.joined(rules, word, suffix, words), want);
    }

    private static void always() {
        Sentences.of(Sentences.TERMS, "The text is always what the strokes that are left make, translated anew from the first one.");
        Stenohall x = new Stenohall();
        Due.strokes(x, 1, 2);
        Due.is("without entries", Due.text(x), "?? ??");
        Due.entry(x, 0, "bake", 1);
        Due.entry(x, 0, "^ing", 2);
        Due.is("with entries", Due.text(x), "bakeing");
        x.rule('e');
        Due.is("with a rule", Due.text(x), "baking");
        Due.words(x, "bakeing");
        Due.is("with a word", Due.text(x), "bakeing");
        Due.words(x, "baking");
        Due.is("with another word", Due.text(x), "baking");
        x.forget();
        Due.is("without rules", Due.text(x), "bakeing");
        x.undo();
        Due.is("with a stroke less", Due.text(x), "bake");
        x.turn(0, false);
        Due.is("without the layer", Due.text(x), "??");
    }

    private static void signBySign() {
        Sentences.of(Sentences.TERMS, "Contents are written one behind the other, sign by sign.");
        writes("abc, dcba", "abc", ",", "dcba");
        writes("abcdefghijkl mnopqrstuvwx", "abcdefghijkl", "mnopqrstuvwx");
        writes("a.B,c|d", "a.b,c|d");
    }

    private static void blanks() {
        Sentences.of(Sentences.TERMS, "Ahead of the first sign that each of them writes, a blank comes, unless that sign is a line end,");
        writes("ab cd ef", "ab", "cd", "ef");
        writes("a|", "a", "|");
        writes("a|b", "a", "|b");
        writes("a|", "a", "-|");
        writes("a b|", "a", "b|");
        writes("a B", "a", "-b");
        writes("A b", "a", "<b");
        writes("a c", "a", "b", "#c");
        writes("ab", "a", "b#b");
        writes("a", "a", "-");
    }

    private static void noBlanks() {
        Sentences.of(Sentences.TERMS, "nothing is written then,");
        writes("a", "a");
        writes("A", "-", "a");
        writes("b", "a", "#b");
        writes("b", "a", "#", "b");
        Sentences.of(Sentences.TERMS, "the last sign written is a line end,");
        writes("a|b", "a|", "b");
        writes("|b", "|", "b");
        writes("a|,", "a", "|", "-,");
        writes("a|c", "a|b", "#c");
        writes("a|b c", "a|b", "c");
        Sentences.of(Sentences.TERMS, "the content begins with '^', '.' or ',',");
        writes("ab", "a", "^b");
        writes("aB", "a", "^-b");
        writes("a.B", "a", ".b");
        writes("a,b", "a", ",b");
        writes("a .", "a", "-.");
        writes("a ,", "a", "=,");
        writes("a b", "a", "=^b");
        writes("a b.", "a", "b.");
        chooses("z b c", "b", "b");
        chooses("zb c", "b", "^b");
        chooses("z,b c", "b", ",b");
        chooses("z.B c", "b", ".b");
        chooses("z b c", "^b", "b");
        chooses("z b c", ",b", "b");
        chooses("z b c", ".b", "b");
    }

    /** Between z and c an entry's own content, and an alternative that c calls for. */
    private static void chooses(String want, String own, String other) {
        Stenohall x = new Stenohall();
        Due.entry(x, 0, "z", 1);
        Due.entry(x, 0, own, 2);
        Due.type(x, other, 2);
        x.alternative(0, 'c');
        Due.entry(x, 0, "c", 3);
        Due.strokes(x, 1, 2, 3);
        Due.is(other + " in place of " + own, Due.text(x), want);
    }

    private static void gluedBlanks() {
        Sentences.of(Sentences.TERMS, "or that of the translation just ahead ended with '^';");
        writes("ab", "a^", "b");
        writes("ab", "a", "^", "b");
        writes("a B", "a^", "-", "b");
        writes("ab c", "a^b", "c");
        writes("ab", "a", "c#^", "b");
        Stenohall x = new Stenohall();
        Due.entry(x, 0, "a", 1);
        Due.type(x, "b^", 1);
        x.alternative(0, 'c');
        Due.entry(x, 0, "c", 2);
        Due.strokes(x, 1, 2);
        Due.is("that of an alternative", Due.text(x), "bc");
        Sentences.of(Sentences.TERMS, "misses count as others.");
        writes("a ?? ??", "a", "??", "??");
        writes("?? a", "??", "a");
        writes("a??", "a^", "??");
        writes("|??", "|", "??");
        writes("a ?? b", "a", "??", "b");
    }

    private static void lettersInARow() {
        Sentences.of(Sentences.TERMS, "A word is a row of letters without anything between, as long as it can be.");
        Due.is("letters and capitals", Due.written("ab-cd").words(), 1);
        Due.is("a comma between", Due.written("ab,cd").words(), 2);
        Due.is("a full stop between", Due.written("ab.cd").words(), 2);
        Due.is("a line end between", Due.written("ab|cd").words(), 2);
        Due.is("a blank between", Due.written("ab", "cd").words(), 2);
        Due.is("a miss between", Due.written("ab^", "??", "^cd").words(), 2);
        Due.is("of several translations", Due.written("ab", "^cd", "^ef").words(), 1);
        writes("Abcd", "ab", "^cd", "<");
        writes("", "ab", "^cd", "#");
    }

    private static void suffixes() {
        Sentences.of(Sentences.TERMS, "The commands are: '^' at the beginning: the letters that follow it, up to a command or the end, are a suffix, told below; elsewhere it writes nothing.");
        joins("foxes", "s", "fox", "s");
        joins("foxsy", "s", "fox", "sy");
        joins("foxesy", "s", "fox", "s^y");
        joins("foxesY", "s", "fox", "s-y");
        joins("Foxesy", "s", "fox", "s<y");
        joins("foxes.Y", "s", "fox", "s.y");
        joins("foxes,y", "s", "fox", "s,y");
        joins("y", "s", "fox", "s#y");
        joins("foxes|y", "s", "fox", "s|y");
        joins("foxesy", "s", "fox", "s=y");
        joins("foxS", "s", "fox", "-s");
        joins("foxs", "s", "fox", "^s");
        joins("cry", "eyds", "cry", "");
        joins("cry,", "eyds", "cry", ",");
        joins("cryS", "eyds", "cry", "-s");
        writes("ab", "a^b");
        writes("bake Ing", "bake", "-^ing");
        writes("a", "a", "^");
    }

    private static void capitals() {
        Sentences.of(Sentences.TERMS, "'-' the next letter that is written is a capital.");
        writes("Abc", "-abc");
        writes("aBc", "a-bc");
        writes("A Z", "-a", "-z");
        writes("Ab", "--ab");
        writes("A b", "-", "a", "b");
        writes(",B", "-,b");
        writes("|B", "-|b");
        writes("?? A", "??", "-", "a");
        writes("?? A", "-", "??", "a");
        writes("A b", "a", "-", "#", "a", "b");
    }

    private static void lastWords() {
        Sentences.of(Sentences.TERMS, "'<' makes the first letter of the last word a capital, if it is small, whatever stands behind it.");
        writes("Ab", "ab", "<");
        writes("ab Cd", "ab", "cd", "<");
        writes("Ab,", "ab", ",", "<");
        writes("Ab.", "ab", ".", "<");
        writes("Ab|", "ab", "|", "<");
        writes("Ab ??", "ab", "??", "<");
        writes("Ab", "-ab", "<");
        writes("AB", "a-b", "<");
        writes("Z", "z", "<");
        writes("Ab", "ab<");
        writes("Ab C", "ab-", "<", "c");
        writes("", "<");
        writes("??", "??", "<");
    }

    private static void stops() {
        Sentences.of(Sentences.TERMS, "'.' writes a full stop, and the next letter that is written is a capital;");
        writes("a. Bc", "a", ".", "bc");
        writes(".A", ".a");
        writes("a.|B", "a.|b");
        writes(". ?? A", ".", "??", "a");
        writes("a.S", "a.", "^s");
        Sentences.of(Sentences.TERMS, "',' writes a comma.");
        writes("a, b", "a", ",", "b");
        writes(",a", ",a");
    }

    private static void takenWords() {
        Sentences.of(Sentences.TERMS, "'#' takes away all from the beginning of the last word on, and one blank ahead of it, if there is one; without a word nothing.");
        writes("ab", "ab", "cd", "#");
        writes("ab", "ab", "cd", ",|.", "#");
        writes("a|", "a|bc", "#");
        writes("a,", "a,bc", "#");
        writes("??", "??", "a", "#");
        writes(",", ",", "a", "#");
        writes("", "a", "#");
        writes("", "a", "b", "##");
        writes("a", "a", "b", "c", "#", "#");
        writes("", "#");
        writes("??", "??", "#");
        writes(",.", ",.", "#");
        writes("a D", "a", "b", "c", "##", "-d");
        Due.is("no sign of the word is left", Due.written("ab", "cd", "#").fromOf(1), -1);
    }

    private static void lineEnds() {
        Sentences.of(Sentences.TERMS, "'|' writes a line end.");
        writes("a|b||", "a|b", "||");
        Due.is("a bar", Due.written("|").at(0), '|');
        Due.is("lines", Due.written("a|b").lines(), 2);
    }

    private static void equalsSigns() {
        Sentences.of(Sentences.TERMS, "'=' elsewhere than alone, or in an alternative, writes nothing.");
        writes("ab", "a=b");
        writes("a b", "=a", "b=");
        writes("a b", "a", "==", "b");
        Stenohall x = new Stenohall();
        Due.entry(x, 0, "x", 1);
        Due.type(x, "=", 1);
        x.alternative(0, 'a');
        Due.type(x, "b=c", 1);
        x.alternative(0, 'c');
        Due.entry(x, 0, "a", 2);
        Due.entry(x, 0, "c", 3);
        Due.strokes(x, 4, 1, 2, 1, 3);
        Due.is("alone in an alternative", Due.text(x), "?? a bc c");
        Due.is("nothing is undone", x.strokes(), 5);
        Due.is("it wrote nothing", x.fromOf(1), -1);
    }

    private static void joinedToWords() {
        Sentences.of(Sentences.TERMS, "A suffix is joined to the word at the end of what is written; if there is none, it is written as it is.");
        joins("baking", "e", "bake", "ing");
        joins("bake,ing", "e", "bake,", "ing");
        joins("bake|ing", "e", "bake|", "ing");
        joins("fox.S", "s", "fox.", "s");
        joins("ing", "e", "#", "ing");
        joins("ca,ing", "d", "ca,", "ing");
        joins("ca|ing", "d", "ca|", "ing");
        joins("ca.Ing", "d", "ca.", "ing");
        Stenohall x = new Stenohall();
        x.rule('s');
        x.rule('e');
        Due.write(x, "^s", "fox", "??", "^s", "ba", "^ke", "^ing");
        Due.is("at first, behind a miss, and behind a suffix", Due.text(x), "s fox ??s baking");
    }

    private static void rulesInOrder() {
        Sentences.of(Sentences.TERMS, "The rules that were told are tried in their order, then the plain join.");
        for (String rules : new String[] {"eyds", "sdye", "yesd", "dsey"}) {
            joins("baking", rules, "bake", "ing");
            joins("cried", rules, "cry", "ed");
            joins("running", rules, "run", "ing");
            joins("foxes", rules, "fox", "s");
            joins("catly", rules, "cat", "ly");
        }
        joins("bakeing", "yds", "bake", "ing");
        joins("cryed", "eds", "cry", "ed");
        joins("runing", "eys", "run", "ing");
        joins("foxs", "eyd", "fox", "s");
        joins("foxs", "", "fox", "s");
    }

    private static void ruleE() {
        Sentences.of(Sentences.TERMS, "'e': the word ends in e, the suffix begins with a vowel, a, e, i, o or u: the e goes.");
        for (String vowel : "a e i o u".split(" ")) {
            joins("bak" + vowel + "b", "e", "bake", vowel + "b");
            joins("bak" + vowel, "e", "bake", vowel);
        }
        for (String other : "b d f h j n p t v y".split(" ")) {
            joins("bake" + other + "a", "e", "bake", other + "a");
        }
        joins("baking", "e", "bak", "ing");
        joins("eaing", "e", "ea", "ing");
        joins("eing", "e", "ee", "ing");
        joins("ing", "e", "e", "ing");
        joins("a,ing", "e", "a,e", "ing");
    }

    private static void ruleY() {
        Sentences.of(Sentences.TERMS, "'y': the word ends in y behind a letter that is no vowel, the suffix does not begin with i: an i comes in its place.");
        joins("bied", "y", "by", "ed");
        for (String vowel : "a e i o u".split(" ")) {
            joins(vowel + "yed", "y", vowel + "y", "ed");
            joins("b" + vowel + "yed", "y", "b" + vowel + "y", "ed");
        }
        for (String other : "b d f h j n p t v y".split(" ")) {
            joins(other + "ied", "y", other + "y", "ed");
            joins("bi" + other, "y", "by", other);
        }
        joins("bying", "y", "by", "ing");
        joins("byi", "y", "by", "i");
        joins("yed", "y", "y", "ed");
        joins("b,yed", "y", "b,y", "ed");
        joins("bized", "y", "biz", "ed");
        joins("byted", "y", "byt", "ed");
    }

    private static void ruleD() {
        Sentences.of(Sentences.TERMS, "'d': the word ends in a letter that is no vowel, and no w, x or y, behind a vowel behind a letter that is no vowel, the suffix begins with a vowel: the last letter comes twice.");
        for (String vowel : "a e i o u".split(" ")) {
            joins("b" + vowel + "tting", "d", "b" + vowel + "t", "ing");
            joins("batt" + vowel, "d", "bat", vowel);
            joins("ba" + vowel + "ing", "d", "ba" + vowel, "ing");
            joins(vowel + "ating", "d", vowel + "at", "ing");
        }
        for (String other : "b d f h j n p t v z".split(" ")) {
            joins("ba" + other + other + "ing", "d", "ba" + other, "ing");
            joins(other + "atting", "d", other + "at", "ing");
            joins("ba" + other + "ting", "d", "ba" + other + "t", "ing");
            joins("bat" + other, "d", "bat", other);
        }
        for (String other : "w x y".split(" ")) {
            joins("ba" + other + "ing", "d", "ba" + other, "ing");
            joins(other + "atting", "d", other + "at", "ing");
        }
        joins("ating", "d", "at", "ing");
        joins("bting", "d", "bt", "ing");
        joins("bing", "d", "b", "ing");
        joins("b,ating", "d", "b,at", "ing");
        joins("strutting", "d", "strut", "ing");
    }

    private static void ruleS() {
        Sentences.of(Sentences.TERMS, "'s': the suffix is s alone, the word ends in s, x, z, ch or sh: an e comes ahead of the suffix.");
        for (String word : "bus fox quiz rich wish s x z ch sh".split(" ")) {
            joins(word + "es", "s", word, "s");
            joins(word + "sy", "s", word, "sy");
            joins(word + "e", "s", word, "e");
            joins(word + "t", "s", word, "t");
        }
        for (String word : "cat h th ah ph chs,h r y w t cha she".split(" ")) {
            joins(word + "s", "s", word, "s");
        }
    }

    private static void listedJoins() {
        Sentences.of(Sentences.TERMS, "The first join that is in the list of words is taken;");
        joins("bakeing", "e", "bake", "ing", "bakeing");
        joins("baking", "e", "bake", "ing", "bakeing", "baking");
        joins("cryed", "y", "cry", "ed", "cryed");
        joins("cried", "y", "cry", "ed", "cryed", "cried");
        joins("runing", "d", "run", "ing", "runing");
        joins("running", "d", "run", "ing", "runing", "running");
        joins("foxs", "s", "fox", "s", "foxs");
        joins("foxes", "s", "fox", "s", "foxs", "foxes");
        joins("cats", "s", "cat", "s", "cates");
        joins("bakeing", "yds", "bake", "ing", "baking");
        Sentences.of(Sentences.TERMS, "if none is, the first one whose rule holds, the plain one last.");
        joins("baking", "ydse", "bake", "ing", "bakein", "akeing", "bake", "ing", "bakeings");
        joins("cried", "edsy", "cry", "ed", "cryd", "cry");
        joins("catly", "eyds", "cat", "ly", "cat");
        Stenohall x = new Stenohall();
        x.rule('e');
        Due.write(x, "abcdefghijkl", "^e", "^ing");
        Due.is("a word longer than any that is listed", Due.text(x), "abcdefghijkling");
    }

    private static void capitalsOfJoins() {
        Sentences.of(Sentences.TERMS, "Capitals count as their letters; letters that stay, stay as they are, others are small, but for a capital that is due for the first letter of the suffix.");
        joins("BAKing", "e", "-b-a-k-e", "ing");
        joins("CRied", "y", "-c-r-y", "ed");
        joins("Ayed", "y", "-ay", "ed");
        joins("RUNning", "d", "-r-u-n", "ing");
        joins("BAYing", "d", "-b-a-y", "ing");
        joins("FOXes", "s", "-f-o-x", "s");
        joins("WISHes", "s", "-w-i-s-h", "s");
        joins("bakIng", "e", "bake-", "ing");
        joins("criEd", "y", "cry-", "ed");
        joins("runnIng", "d", "run-", "ing");
        joins("foxeS", "s", "fox-", "s");
        joins("catS", "", "cat-", "s");
        joins("Bakeing", "e", "-bake", "ing", "bakeing");
        joins("bakeIng", "e", "bake-", "ing", "bakeing");
        joins("CRYed", "y", "-c-r-y", "ed", "cryed");
    }

    private static void word() {
        Sentences.of(17, "Puts the typed signs, letters alone, to the list of words, where each word is once; the signs are gone, typed strokes stay. Returns how many unlike words there are.");
        Stenohall x = new Stenohall();
        Due.type(x, "cat", 1, 2);
        Due.is("one", x.word(), 1);
        Due.is("the signs are gone, the strokes stay", x.wipe(), 2);
        Due.type(x, "cat");
        Due.is("once", x.word(), 1);
        Due.is("gone all the same", x.wipe(), 0);
        Due.type(x, "ca");
        Due.is("its beginning is another one", x.word(), 2);
        Due.type(x, "z");
        Due.is("a letter", x.word(), 3);
        Due.type(x, "abcdefghijkl");
        Due.is("twelve letters", x.word(), 4);
        for (String word : new String[] {"cat", "ca", "z", "abcdefghijkl"}) {
            Due.type(x, word);
            Due.is(word, x.isWord(), true);
            x.wipe();
        }
    }

    private static void wordRefused() {
        Sentences.of(17, "Throws UnsupportedOperationException if no sign is typed, or one is no letter");
        Due.refuses("nothing", UnsupportedOperationException.class, y -> y.stroke(1), Stenohall::word);
        Due.refuses("strokes alone", UnsupportedOperationException.class, y -> Due.type(y, "", 1, 2), Stenohall::word);
        for (char sign : "^-<.,#|=".toCharArray()) {
            Due.refuses("ahead " + sign, UnsupportedOperationException.class, y -> Due.type(y, sign + "ab", 1), Stenohall::word);
            Due.refuses("behind " + sign, UnsupportedOperationException.class, y -> Due.type(y, "ab" + sign, 1), Stenohall::word);
        }
        Sentences.of(17, "Throws IllegalStateException if there are 60");
        Stenohall x = new Stenohall();
        Halls.words(x, 59);
        Due.type(x, "zz");
        Due.is("the 60th", x.word(), 60);
        Due.refuses("another one", IllegalStateException.class, y -> {
            Halls.words(y, 60);
            Due.type(y, "zz", 1);
        }, Stenohall::word);
        Due.refuses("one that is listed", IllegalStateException.class, y -> {
            Halls.words(y, 60);
            Due.type(y, "aa", 1);
        }, Stenohall::word);
    }

    private static void isWord() {
        Sentences.of(18, "Returns whether the typed signs are in the list of words. Returns true if so.");
        Stenohall x = new Stenohall();
        Due.is("nothing typed, no words", x.isWord(), false);
        Due.words(x, "cat", "dog");
        Due.is("nothing typed", x.isWord(), false);
        x.sign('c');
        x.sign('a');
        Due.is("a part", x.isWord(), false);
        x.sign('t');
        Due.is("the first", x.isWord(), true);
        x.chord(1);
        Due.is("strokes don't matter", x.isWord(), true);
        x.sign('s');
        Due.is("more", x.isWord(), false);
        x.wipe();
        Due.type(x, "dog");
        Due.is("the second", x.isWord(), true);
        Due.is("they stay typed", x.wipe(), 3);
        Due.type(x, "-cat");
        Due.is("a command", x.isWord(), false);
    }

    private static void rule() {
        Sentences.of(19, "Tells a rule for suffixes, as the last one. rule: e, y, d or s Returns how many there are.");
        Stenohall x = new Stenohall();
        int count = 0;
        for (char rule : "seyd".toCharArray()) {
            count++;
            Due.is("rule " + rule, x.rule(rule), count);
        }
        Sentences.of(19, "Throws IllegalArgumentException if there is no such rule");
        for (char rule : new char[] {'c', 'f', 'x', 'z', 'r', 't', 'E', 'Y', 'D', 'S', ' ', 0, 'e' + 256, 65535}) {
            Due.refuses("rule " + (int) rule, IllegalArgumentException.class, Halls::rich, y -> y.rule(rule));
        }
        Sentences.of(19, "Throws UnsupportedOperationException if it was told");
        for (char rule : "eyds".toCharArray()) {
            Due.refuses("the only one", UnsupportedOperationException.class, y -> y.rule(rule), y -> y.rule(rule));
            Due.refuses("one of four", UnsupportedOperationException.class, y -> {
                for (char other : "seyd".toCharArray()) {
                    y.rule(other);
                }
            }, y -> y.rule(rule));
        }
        x.forget();
        Due.is("it was forgotten", x.rule('e'), 1);
    }

    private static void forget() {
        Sentences.of(20, "Takes all rules for suffixes away. Returns how many there were.");
        Stenohall x = new Stenohall();
        Due.is("none", x.forget(), 0);
        x.rule('s');
        Due.is("one", x.forget(), 1);
        for (char rule : "seyd".toCharArray()) {
            x.rule(rule);
        }
        Due.write(x, "fox", "^s", "bake", "^ing", "cry", "^ed", "run", "^ing");
        Due.is("by rules", Due.text(x), "foxes baking cried running");
        Due.is("four", x.forget(), 4);
        Due.is("none is left", x.forget(), 0);
        Due.is("without", Due.text(x), "foxs bakeing cryed runing");
    }

    private static void length() {
        Sentences.of(21, "Returns how many signs are written. Returns how many.");
        Due.is("none", new Stenohall().length(), 0);
        Due.is("a blank too", Due.written("a", "b").length(), 3);
        Due.is("a line end too", Due.written("a|", "b").length(), 3);
        Due.is("those taken away don't count", Due.written("a", "bcd", "#").length(), 1);
        Stenohall x = new Stenohall();
        Due.entry(x, 0, "abcdefghijkl", 1);
        for (int i = 0; i < 100; i++) {
            x.stroke(1);
        }
        Due.is("the most there can be", x.length(), 1299);
        Due.is("the last of them", x.at(1298), 'l');
        Due.fails("none behind it", IndexOutOfBoundsException.class, () -> x.at(1299));
    }

    private static void at() {
        Sentences.of(22, "Returns a sign that is written. index: the index, from 0 Returns the sign; a line end as a bar.");
        Stenohall x = Due.written("-a|.", ",b", "??");
        Due.is("text", Due.text(x), "A|.,B ??");
        Due.is("the first", x.at(0), 'A');
        Due.is("a bar", x.at(1), '|');
        Due.is("a blank", x.at(5), ' ');
        Due.is("the last", x.at(7), '?');
        Sentences.of(22, "Throws IndexOutOfBoundsException if there is no such sign");
        for (int index : new int[] {-1, 3, 4, 1300, Integer.MIN_VALUE, Integer.MAX_VALUE}) {
            Due.refuses("at(" + index + ")", IndexOutOfBoundsException.class, y -> Due.write(y, "a", "b", "c", "#"), y -> y.at(index));
        }
        Due.fails("of none", IndexOutOfBoundsException.class, () -> new Stenohall().at(0));
    }

    private static void time() {
        Sentences.of(23, "Returns the time of a sign that is written. index: the index, from 0 Returns the tick.");
        Stenohall x = new Stenohall();
        Due.entry(x, 0, "a", 1);
        x.stroke(1);
        for (int i = 0; i < 400; i++) {
            x.tick();
        }
        x.stroke(1);
        Due.is("the tick 0", x.time(0), 0);
        Due.is("of a blank too", x.time(1), 400);
        Due.is("the tick 400", x.time(2), 400);
        Sentences.of(23, "Throws IndexOutOfBoundsException if there is no such sign");
        for (int index : new int[] {-1, 3, 4, 1300, Integer.MIN_VALUE, Integer.MAX_VALUE}) {
            Due.refuses("time(" + index + ")", IndexOutOfBoundsException.class, y -> Due.write(y, "a", "b", "c", "#"), y -> y.time(index));
        }
        Due.fails("of none", IndexOutOfBoundsException.class, () -> new Stenohall().time(0));
    }

    private static void words() {
        Sentences.of(24, "Returns how many words are written. Returns how many.");
        Due.is("none", new Stenohall().words(), 0);
        Due.is("no letters", Due.written("??", ",.|").words(), 0);
        Due.is("one letter", Due.written("a").words(), 1);
        Due.is("a word at both ends", Due.written("a", ",b").words(), 2);
        Due.is("signs at both ends", Due.written(",a", ".").words(), 1);
        Due.is("the same word twice", Due.written("the", "the").words(), 2);
        Due.is("one taken away", Due.written("a", "b", "#").words(), 1);
    }

    private static void fromOf() {
        Sentences.of(29, "Returns where what a translation wrote begins. translation: the translation, from 0 Returns the least index of a sign that it wrote, a blank too, and that is left, -1 if there is none.");
        Stenohall x = new Stenohall();
        x.rule('y');
        Due.write(x, "cry", "ab", "<", "#", "-", "^ed", "??", "<");
        Due.is("text", Due.text(x), "CriEd ??");
        Due.is("its first letter is another one's", x.fromOf(0), 1);
        Due.is("none is left", x.fromOf(1), -1);
        Due.is("what it raised is gone", x.fromOf(2), -1);
        Due.is("it took a word away", x.fromOf(3), -1);
        Due.is("it wrote nothing", x.fromOf(4), -1);
        Due.is("a letter in the place of another one", x.fromOf(5), 2);
        Due.is("a blank too", x.fromOf(6), 5);
        Due.is("the letter it raised", x.fromOf(7), 0);
        Sentences.of(29, "Throws IndexOutOfBoundsException if there is no such translation");
        for (int index : new int[] {-1, 3, 7, 100, Integer.MIN_VALUE, Integer.MAX_VALUE}) {
            Due.refuses("fromOf(" + index + ")", IndexOutOfBoundsException.class, Halls::threeTranslations, y -> y.fromOf(index));
        }
        Due.fails("of none", IndexOutOfBoundsException.class, () -> new Stenohall().fromOf(0));
    }
}
