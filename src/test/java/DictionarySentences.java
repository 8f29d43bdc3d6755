/** Promises 9 to 16 and 25 to 28, and what the terms say of dictionaries, sentence by sentence. */
final class DictionarySentences {
    private static final int[] NO_LAYERS = {-1, 4, 5, 32, Integer.MIN_VALUE, Integer.MAX_VALUE};
    private static final String COMMANDS = "^-<.,#|=";

    private DictionarySentences() {
    }

    static void run() {
        layers();
        outlines();
        contents();
        typedAhead();
        inPlace();
        forty();
        threeAlternatives();
        inOrder();
        longest();
        wholeOnes();
        greatestLayer();
        misses();
        undoing();
        behindUndone();
        anew();
        firstAlternative();
        signsOfMisses();
        chord();
        sign();
        wipe();
        entry();
        entryRefused();
        alternative();
        alternativeRefused();
        remove();
        turn();
        entries();
        translations();
        strokesOf();
        layerOf();
        chosen();
    }

    private static void layers() {
        Sentences.of(Sentences.TERMS, "There are the layers 0 to 3, each on at first.");
        for (int layer = 0; layer < 4; layer++) {
            Stenohall x = new Stenohall();
            Due.entry(x, layer, "a", 1);
            x.stroke(1);
            Due.is("an entry of " + layer, Due.text(x), "a");
            Due.is("it is on", x.turn(layer, true), true);
        }
        for (int layer : NO_LAYERS) {
            Due.refuses("entry(" + layer + ")", IndexOutOfBoundsException.class, Halls::rich, y -> y.entry(layer));
        }
    }

    private static void outlines() {
        Sentences.of(Sentences.TERMS, "An entry of a layer has an outline, a row of 1 to 4 strokes,");
        Stenohall x = new Stenohall();
        Due.entry(x, 0, "one", 9);
        Due.entry(x, 0, "four", 1, 2, 3, 4);
        Due.strokes(x, 9, 1, 2, 3, 4);
        Due.is("one stroke, and four", Due.text(x), "one four");
        Due.is("two translations", x.translations(), 2);
        Due.type(x, "", 1, 2, 3, 4);
        Due.fails("a fifth stroke", IllegalStateException.class, () -> x.chord(5));
        Stenohall y = new Stenohall();
        Due.entry(y, 0, "order", 1, 2);
        Due.strokes(y, 2, 1);
        Due.is("a row has an order", Due.text(y), "?? ??");
    }

    private static void contents() {
        Sentences.of(Sentences.TERMS, "and a content, a row of 1 to 12 signs: letters, 'a' to 'z', and commands, told below.");
        Stenohall x = new Stenohall();
        Due.entry(x, 0, "a", 1);
        Due.entry(x, 0, "abcdefxyzabz", 2);
        Due.strokes(x, 1, 2);
        Due.is("one sign, and twelve", Due.text(x), "a abcdefxyzabz");
        for (char sign : (COMMANDS + "az").toCharArray()) {
            Due.is("the sign " + sign, new Stenohall().sign(sign), 1);
        }
    }

    private static void typedAhead() {
        Sentences.of(Sentences.TERMS, "Strokes and signs are typed ahead, one by one; an entry takes all that is typed,");
        Stenohall x = new Stenohall();
        x.sign('c');
        x.chord(1);
        x.sign('a');
        x.chord(2);
        x.stroke(7);
        x.sign('t');
        Due.is("typed in any order", x.entry(0), false);
        Due.is("nothing is left of it", x.wipe(), 0);
        Due.strokes(x, 1, 2);
        Due.is("all of it", Due.text(x), "?? cat");
    }

    private static void inPlace() {
        Sentences.of(Sentences.TERMS, "in place of one of the layer with the same outline;");
        Stenohall x = new Stenohall();
        Due.entry(x, 0, "a", 1, 2);
        Due.type(x, "b", 1, 2);
        Due.is("in another layer", x.entry(1), false);
        Due.type(x, "c", 1);
        Due.is("a shorter outline", x.entry(0), false);
        Due.type(x, "d", 2, 1);
        Due.is("another order", x.entry(0), false);
        Due.type(x, "e", 1, 2);
        Due.is("the same outline", x.entry(0), true);
        Due.is("entries", x.entries(0), 3);
        x.turn(1, false);
        Due.strokes(x, 1, 2);
        Due.is("the later one", Due.text(x), "e");
    }

    private static void forty() {
        Sentences.of(Sentences.TERMS, "a layer has at most 40.");
        Stenohall x = new Stenohall();
        Halls.fortyEntries(x, 0);
        Due.is("40", x.entries(0), 40);
        Due.type(x, "b", 41);
        Due.fails("a 41st", IllegalStateException.class, () -> x.entry(0));
        Due.is("40 still", x.entries(0), 40);
        Due.is("another layer has room", x.entry(1), false);
        Due.type(x, "b", 40);
        Due.is("in place of the 40th", x.entry(0), true);
        Due.type(x, "c", 1);
        Due.is("in place of the first", x.entry(0), true);
        Due.strokes(x, 1, 2, 40, 41);
        Due.is("the first, the second, the last, and that of another layer", Due.text(x), "c a b b");
    }

    private static void threeAlternatives() {
        Sentences.of(Sentences.TERMS, "An entry can have at most 3 alternatives, each with a letter.");
        Stenohall x = new Stenohall();
        Due.entry(x, 0, "he", 1);
        for (int i = 0; i < 3; i++) {
            Due.type(x, "x" + "abc".charAt(i), 1);
            Due.is("alternative", x.alternative(0, "raz".charAt(i)), i + 1);
        }
        Due.type(x, "xd", 1);
        Due.fails("a fourth", IllegalStateException.class, () -> x.alternative(0, 'q'));
        x.wipe();
        Due.entry(x, 0, "r", 2);
        Due.entry(x, 0, "a", 3);
        Due.entry(x, 0, "z", 4);
        Due.entry(x, 0, "q", 5);
        Due.strokes(x, 1, 2, 1, 3, 1, 4, 1, 5);
        Due.is("each by its letter", Due.text(x), "xa r xb a xc z he q");
    }

    private static void inOrder() {
        Sentences.of(Sentences.TERMS, "Strokes are translated in their order.");
        Stenohall x = new Stenohall();
        Due.entry(x, 0, "a", 1, 2);
        Due.entry(x, 0, "b", 2, 3);
        Due.entry(x, 0, "c", 3);
        Due.strokes(x, 1, 2, 3);
        Due.is("1 2 is first", Due.text(x), "a c");
        x.undo();
        x.undo();
        x.undo();
        Due.strokes(x, 2, 3, 1);
        Due.is("2 3 is first", Due.text(x), "b ??");
    }

    private static void longest() {
        Sentences.of(Sentences.TERMS, "With a new one, the longest outline is looked for that is made of it and of the strokes of some last translations ahead of it,");
        Stenohall x = new Stenohall();
        Due.entry(x, 3, "one", 4);
        Due.entry(x, 2, "two", 3, 4);
        Due.entry(x, 1, "three", 2, 3, 4);
        Due.entry(x, 0, "four", 1, 2, 3, 4);
        Due.strokes(x, 1, 2, 3, 4);
        Due.is("of four strokes", Due.text(x), "four");
        x.chord(1);
        x.chord(2);
        x.chord(3);
        x.chord(4);
        x.remove(0);
        Due.is("of three", Due.text(x), "?? three");
        x.turn(1, false);
        Due.is("of two", Due.text(x), "?? ?? two");
        x.turn(2, false);
        Due.is("of one", Due.text(x), "?? ?? ?? one");
        Stenohall y = new Stenohall();
        Due.entry(y, 0, "pair", 1, 2);
        Due.strokes(y, 1, 3, 2);
        Due.is("the last ones alone", Due.text(y), "?? ?? ??");
    }

    private static void wholeOnes() {
        Sentences.of(Sentences.TERMS, "whole ones, in some layer that is on;");
        Stenohall x = new Stenohall();
        Due.entry(x, 0, "a", 1, 2);
        Due.entry(x, 0, "b", 2, 3);
        Due.entry(x, 0, "c", 3, 4);
        Due.strokes(x, 1, 2, 3);
        Due.is("2 is part of another one", Due.text(x), "a ??");
        x.stroke(4);
        Due.is("3 is whole", Due.text(x), "a c");
        Due.entry(x, 1, "d", 1, 2, 3);
        Due.is("the whole 1 2", Due.text(x), "d ??");
        x.turn(1, false);
        Due.is("off", Due.text(x), "a c");
    }

    private static void greatestLayer() {
        Sentences.of(Sentences.TERMS, "of several layers the one with the greatest number counts. That entry takes the place of these translations;");
        Stenohall x = new Stenohall();
        for (int layer : new int[] {2, 0, 3, 1}) {
            Due.entry(x, layer, "" + (char) ('a' + layer), 1, 2);
        }
        Due.strokes(x, 1, 2);
        for (int layer = 3; layer >= 0; layer--) {
            Due.is("the greatest that is on", Due.text(x), "" + (char) ('a' + layer));
            Due.is("its layer", x.layerOf(0), layer);
            Due.is("in their place", x.translations(), 1);
            x.turn(layer, false);
        }
        Due.is("none is on", Due.text(x), "?? ??");
    }

    private static void misses() {
        Sentences.of(Sentences.TERMS, "without any, the stroke alone is a translation without an entry, a miss.");
        Stenohall x = new Stenohall();
        Due.entry(x, 0, "a", 1, 2);
        Due.strokes(x, 1, 3, 2);
        Due.is("three", x.translations(), 3);
        Due.is("one stroke each", x.strokesOf(0) * 100 + x.strokesOf(1) * 10 + x.strokesOf(2), 111);
        Due.is("without an entry", x.layerOf(0) + x.layerOf(1) + x.layerOf(2), -3);
        Due.is("unlike ones", x.misses(), 3);
    }

    private static void undoing() {
        Sentences.of(Sentences.TERMS, "If the content of that entry is '=' alone, the strokes of this translation are undone at once, and the last one of those ahead of them, if there is one;");
        Stenohall x = new Stenohall();
        Due.entry(x, 0, "=", 9);
        Due.is("none ahead", x.stroke(9), 0);
        x.stroke(5);
        Due.is("the only one ahead", x.stroke(9), 0);
        Due.strokes(x, 5, 6, 7);
        Due.is("the last one ahead", x.stroke(9), 2);
        Due.is("kept", Due.kept(x), "5 6");
        Stenohall y = new Stenohall();
        Due.entry(y, 0, "=", 1, 2, 3, 4);
        Due.strokes(y, 6, 7, 1, 2, 3);
        Due.is("four strokes and one", y.stroke(4), 1);
        Due.is("kept", Due.kept(y), "6");
        Stenohall z = new Stenohall();
        Due.entry(z, 0, "==", 9);
        Due.entry(z, 0, "=a", 8);
        Due.is("not alone", z.stroke(9), 1);
        Due.is("not alone", z.stroke(8), 2);
        Due.is("text", Due.text(z), "a");
        Stenohall w = new Stenohall();
        Due.entry(w, 0, "=", 9);
        Due.type(w, "b", 9);
        w.alternative(0, 'a');
        Due.entry(w, 0, "a", 1);
        w.stroke(1);
        Due.is("though it has an alternative", w.stroke(9), 0);
        Due.entry(w, 1, "c", 9);
        Due.strokes(w, 1, 9, 1);
        w.turn(1, false);
        Due.is("though the next one's letter is the alternative's", Due.kept(w), "1");
    }

    private static void behindUndone() {
        Sentences.of(Sentences.TERMS, "the others, and those behind, are translated anew from the first one.");
        Stenohall x = new Stenohall();
        Due.entry(x, 0, "cat", 1, 2, 3);
        Due.entry(x, 0, "dog", 1, 2);
        Due.strokes(x, 1, 2, 3);
        Due.entry(x, 0, "=", 9);
        x.stroke(9);
        Due.is("the others", Due.text(x), "dog");
        Due.is("kept", Due.kept(x), "1 2");
        Stenohall y = new Stenohall();
        Due.entry(y, 0, "cat", 1, 2);
        Due.strokes(y, 1, 5, 9, 2);
        Due.entry(y, 0, "=", 9);
        Due.is("those behind", Due.text(y), "cat");
        Due.is("kept", Due.kept(y), "1 2");
        Stenohall z = new Stenohall();
        Due.strokes(z, 1, 9, 9, 2);
        Due.entry(z, 0, "=", 9);
        Due.is("one behind undoes too", Due.kept(z), "2");
    }

    private static void anew() {
        Sentences.of(Sentences.TERMS, "All strokes are translated anew as a stroke comes or goes, and as entries, alternatives or layers change;");
        Stenohall x = new Stenohall();
        Due.entry(x, 0, "he", 1);
        Due.entry(x, 0, "sat", 2);
        Due.strokes(x, 1, 2);
        Due.is("text", Due.text(x), "he sat");
        Due.type(x, "she", 1);
        x.alternative(0, 's');
        Due.is("an alternative", Due.text(x), "she sat");
        x.undo();
        Due.is("a stroke goes", Due.text(x), "he");
        x.stroke(2);
        Due.is("a stroke comes", Due.text(x), "she sat");
        Due.entry(x, 1, "sit", 1, 2);
        Due.is("an entry", Due.text(x), "sit");
        x.turn(1, false);
        Due.is("a layer", Due.text(x), "she sat");
        Due.type(x, "", 2);
        x.remove(0);
        Due.is("an entry less", Due.text(x), "he ??");
        Sentences.of(Sentences.TERMS, "the strokes that this undoes are gone, too.");
        Stenohall y = new Stenohall();
        Due.strokes(y, 5, 6, 2, 7, 8);
        Due.entry(y, 1, "=", 2);
        Due.is("as an entry comes", Due.kept(y), "5 7 8");
        y.turn(1, false);
        Due.strokes(y, 2, 9);
        y.turn(1, true);
        Due.is("as a layer is turned on", Due.kept(y), "5 7 9");
        y.turn(1, false);
        Due.is("not back as it is turned off", Due.kept(y), "5 7 9");
        Due.entry(y, 0, "x", 7, 9);
        Due.entry(y, 0, "=", 9);
        Due.is("within a longer one", Due.kept(y), "5 7 9");
        Due.type(y, "", 7, 9);
        y.remove(0);
        Due.is("as an entry goes", Due.kept(y), "5");
    }

    private static void firstAlternative() {
        Sentences.of(Sentences.TERMS, "The content of a translation is that of the first alternative, as they were told, whose letter is the first letter in the content, without alternatives, of the entry of the next translation;");
        Stenohall x = new Stenohall();
        Due.entry(x, 0, "to", 1);
        for (String content : new String[] {"two", "too"}) {
            Due.type(x, content, 1);
            x.alternative(0, 'c');
        }
        Due.type(x, "toe", 1);
        x.alternative(0, 'a');
        Due.entry(x, 0, "-cat", 2);
        Due.entry(x, 0, "at", 3);
        Due.type(x, "cat", 3);
        x.alternative(0, 't');
        Due.strokes(x, 1, 2);
        Due.is("the first of two, by the first letter", Due.text(x), "two Cat");
        x.undo();
        Due.strokes(x, 3, 1);
        Due.is("without alternatives", Due.text(x), "toe cat to");
        Sentences.of(Sentences.TERMS, "if there is none, that of the entry itself.");
        Due.is("the last one", x.chosen(2), 0);
        Due.strokes(x, 9, 1, 1);
        Due.is("ahead of a miss, and of t", Due.text(x), "toe cat to ?? to to");
        Due.entry(x, 0, "^.", 4);
        x.stroke(4);
        Due.is("ahead of no letter", Due.text(x), "toe cat to ?? to to.");
    }

    private static void signsOfMisses() {
        Sentences.of(Sentences.TERMS, "A miss has the content of the two signs '?' and '?', which are written without being commands.");
        Stenohall x = new Stenohall();
        Due.entry(x, 0, "a-", 1);
        Due.strokes(x, 1, 9, 1, 9, 9);
        Due.is("no letters, no commands", Due.text(x), "a ?? A ?? ??");
        Due.is("no words", x.words(), 2);
        Stenohall y = new Stenohall();
        y.stroke(1);
        Due.is("two signs", y.length(), 2);
        Due.fails("'?' is not typed", IllegalArgumentException.class, () -> x.sign('?'));
    }

    private static void chord() {
        Sentences.of(9, "Types a stroke. keys: the keys, as bits Returns how many strokes are typed.");
        Stenohall x = new Stenohall();
        Due.is("first", x.chord(1), 1);
        x.sign('a');
        Due.is("signs don't count", x.chord(65535), 2);
        Due.is("the same again", x.chord(65535), 3);
        Due.is("fourth", x.chord(2), 4);
        Due.is("none is made", x.strokes(), 0);
        x.entry(0);
        Due.is("from 1 again", x.chord(3), 1);
        Sentences.of(9, "Throws IllegalArgumentException if it is out of range");
        for (int stroke : new int[] {0, -1, 65536, 65537, Integer.MIN_VALUE, Integer.MAX_VALUE}) {
            Due.refuses("chord " + stroke, IllegalArgumentException.class, Halls::rich, y -> y.chord(stroke));
        }
        Sentences.of(9, "Throws IllegalStateException if there are 4");
        Due.refuses("a fifth", IllegalStateException.class, y -> Due.type(y, "ab", 1, 2, 3, 4), y -> y.chord(5));
    }

    private static void sign() {
        Sentences.of(10, "Types a sign. sign: a letter, or one of the commands Returns how many signs are typed.");
        Stenohall x = new Stenohall();
        int count = 0;
        for (char sign : "az^-<.,#|=mm".toCharArray()) {
            count++;
            Due.is("sign " + sign, x.sign(sign), count);
        }
        x.wipe();
        x.chord(1);
        Due.is("strokes don't count", x.sign('a'), 1);
        for (char sign = 'b'; sign <= 'k'; sign++) {
            x.sign(sign);
        }
        Due.is("twelfth", x.sign('l'), 12);
        Sentences.of(10, "Throws IllegalArgumentException if there is no such sign");
        for (char sign : "`{AZ?0 /;+_>!\"~}\n".toCharArray()) {
            Due.refuses("sign " + sign, IllegalArgumentException.class, Halls::rich, y -> y.sign(sign));
        }
        for (char sign : new char[] {0, 'a' + 256, '^' + 256, 255, 65535}) {
            Due.refuses("sign " + (int) sign, IllegalArgumentException.class, Halls::rich, y -> y.sign(sign));
        }
        Sentences.of(10, "Throws IllegalStateException if there are 12");
        Due.refuses("a letter more", IllegalStateException.class, y -> Due.type(y, "abcdefghijkl", 1), y -> y.sign('m'));
        Due.refuses("a command more", IllegalStateException.class, y -> Due.type(y, "abcdefghijkl", 1), y -> y.sign('='));
    }

    private static void wipe() {
        Sentences.of(11, "Takes away all that is typed, strokes and signs. Returns how many there were.");
        Stenohall x = new Stenohall();
        Due.is("none", x.wipe(), 0);
        Due.type(x, "abcdefghijkl", 1, 2, 3, 4);
        Due.is("all there can be", x.wipe(), 16);
        Due.is("none is left", x.wipe(), 0);
        Due.type(x, "b", 5);
        x.entry(0);
        x.stroke(5);
        Due.is("what was taken away is in no entry", Due.text(x), "b");
        x.chord(1);
        Due.is("strokes alone", x.wipe(), 1);
        x.sign('a');
        Due.is("signs alone", x.wipe(), 1);
    }

    private static void entry() {
        Sentences.of(12, "Makes an entry of what is typed, without alternatives; what is typed is gone. layer: 0 to 3 Returns whether there was one with this outline.");
        Stenohall x = new Stenohall();
        Due.entry(x, 3, "sea", 2);
        Due.type(x, "he", 1);
        Due.is("none", x.entry(0), false);
        Due.is("gone", x.wipe(), 0);
        Due.type(x, "she", 1);
        x.alternative(0, 's');
        Due.strokes(x, 1, 2);
        Due.is("with an alternative", Due.text(x), "she sea");
        Due.type(x, "it", 1);
        Due.is("one", x.entry(0), true);
        Due.is("gone", x.wipe(), 0);
        Due.is("without alternatives", Due.text(x), "it sea");
        Due.type(x, "we", 1);
        Due.is("the first alternative", x.alternative(0, 's'), 1);
    }

    private static void entryRefused() {
        Sentences.of(12, "Throws IndexOutOfBoundsException if there is no such layer");
        Stenohall x = new Stenohall();
        Due.type(x, "a", 1);
        Due.fails("entry(-1)", IndexOutOfBoundsException.class, () -> x.entry(-1));
        Due.fails("entry(4)", IndexOutOfBoundsException.class, () -> x.entry(4));
        Due.is("entry(3)", x.entry(3), false);
        Sentences.of(12, "Throws UnsupportedOperationException if no stroke or no sign is typed");
        Due.refuses("nothing", UnsupportedOperationException.class, y -> y.stroke(1), y -> y.entry(0));
        Due.refuses("no stroke", UnsupportedOperationException.class, y -> Due.type(y, "abcdefghijkl"), y -> y.entry(0));
        Due.refuses("no sign", UnsupportedOperationException.class, y -> Due.type(y, "", 1, 2, 3, 4), y -> y.entry(0));
        Sentences.of(12, "Throws IllegalStateException if the layer has 40, and none with this outline");
        Due.refuses("a 41st", IllegalStateException.class, y -> {
            Halls.fortyEntries(y, 2);
            Due.type(y, "b", 1, 1);
        }, y -> y.entry(2));
        Stenohall z = new Stenohall();
        Halls.fortyEntries(z, 2);
        for (int outline : new int[] {1, 20, 40}) {
            Due.type(z, "b", outline);
            Due.is("one with this outline", z.entry(2), true);
        }
        z.chord(20);
        z.remove(2);
        Due.type(z, "b", 41);
        Due.is("39", z.entry(2), false);
        Due.is("40 again", z.entries(2), 40);
    }

    private static void alternative() {
        Sentences.of(13, "Gives the entry with the typed outline an alternative, with the typed signs; what is typed is gone. layer: 0 to 3 letter: the letter, a to z Returns how many it has.");
        Stenohall x = new Stenohall();
        Due.entry(x, 3, "on", 1, 2);
        Due.entry(x, 0, "on", 1, 2);
        Due.entry(x, 0, "za", 3);
        Due.type(x, "in", 1, 2);
        Due.is("one", x.alternative(3, 'z'), 1);
        Due.is("gone", x.wipe(), 0);
        Due.type(x, "at", 1, 2);
        Due.is("two", x.alternative(3, 'a'), 2);
        Due.type(x, "by", 1, 2);
        Due.is("in another layer one", x.alternative(0, 'a'), 1);
        Due.strokes(x, 1, 2, 3);
        Due.is("text", Due.text(x), "in za");
        x.turn(3, false);
        Due.is("the other one", Due.text(x), "on za");
    }

    private static void alternativeRefused() {
        Sentences.of(13, "Throws IndexOutOfBoundsException if there is no such layer");
        for (int layer : NO_LAYERS) {
            Due.refuses("layer " + layer, IndexOutOfBoundsException.class, Halls::rich, y -> y.alternative(layer, 'a'));
        }
        Sentences.of(13, "Throws IllegalArgumentException if it is no letter");
        for (char letter : new char[] {'`', '{', 'A', 'Z', '-', '^', '?', 0, 'a' + 256, 65535}) {
            Due.refuses("letter " + (int) letter, IllegalArgumentException.class, Halls::rich, y -> y.alternative(2, letter));
        }
        Sentences.of(13, "Throws UnsupportedOperationException if no sign is typed, or there is no such entry");
        Due.refuses("no sign", UnsupportedOperationException.class, y -> {
            Due.entry(y, 0, "a", 1);
            y.chord(1);
        }, y -> y.alternative(0, 'a'));
        Due.refuses("no outline", UnsupportedOperationException.class, y -> {
            Due.entry(y, 0, "a", 1);
            y.sign('b');
        }, y -> y.alternative(0, 'a'));
        Due.refuses("another layer", UnsupportedOperationException.class, y -> {
            Due.entry(y, 0, "a", 1);
            Due.type(y, "b", 1);
        }, y -> y.alternative(1, 'a'));
        Due.refuses("half of the outline", UnsupportedOperationException.class, y -> {
            Due.entry(y, 0, "a", 1, 2);
            Due.type(y, "b", 1);
        }, y -> y.alternative(0, 'a'));
        Due.refuses("more than the outline", UnsupportedOperationException.class, y -> {
            Due.entry(y, 0, "a", 1);
            Due.type(y, "b", 1, 2);
        }, y -> y.alternative(0, 'a'));
        Sentences.of(13, "Throws IllegalStateException if it has 3");
        Due.refuses("a fourth", IllegalStateException.class, Halls::threeAlternatives, y -> y.alternative(0, 'd'));
        Due.refuses("a letter that one has", IllegalStateException.class, Halls::threeAlternatives, y -> y.alternative(0, 'a'));
    }

    private static void remove() {
        Sentences.of(14, "Removes the entry with the typed outline; what is typed is gone. layer: 0 to 3 Returns whether there was one.");
        Stenohall x = new Stenohall();
        Due.entry(x, 3, "a", 1, 2);
        Due.entry(x, 3, "b", 1);
        Due.entry(x, 0, "c", 1, 2);
        Due.type(x, "abc");
        Due.is("no outline", x.remove(3), false);
        Due.is("gone all the same", x.wipe(), 0);
        Due.type(x, "", 2, 1);
        Due.is("another outline", x.remove(3), false);
        Due.is("gone all the same", x.wipe(), 0);
        Due.type(x, "x", 1, 2);
        Due.is("the outline", x.remove(3), true);
        Due.is("gone", x.wipe(), 0);
        Due.type(x, "", 1, 2);
        Due.is("it is not there any more", x.remove(3), false);
        Due.is("entries", x.entries(3) * 10 + x.entries(0), 11);
        Due.strokes(x, 1, 2, 1);
        Due.is("those that are left", Due.text(x), "c b");
        Sentences.of(14, "Throws IndexOutOfBoundsException if there is no such layer");
        for (int layer : NO_LAYERS) {
            Due.refuses("layer " + layer, IndexOutOfBoundsException.class, Halls::rich, y -> y.remove(layer));
        }
    }

    private static void turn() {
        Sentences.of(15, "Turns a layer on or off. layer: 0 to 3 isOn: whether it is on Returns whether it was.");
        for (int layer = 0; layer < 4; layer++) {
            Stenohall x = new Stenohall();
            Due.entry(x, layer, "a", 1);
            x.stroke(1);
            Due.is("it was on", x.turn(layer, false), true);
            Due.is("off", Due.text(x), "??");
            Due.is("it was off", x.turn(layer, false), false);
            Due.is("the others are on", x.turn((layer + 1) % 4, true) && x.turn((layer + 3) % 4, true), true);
            Due.is("it was off still", x.turn(layer, true), false);
            Due.is("on", Due.text(x), "a");
            Due.is("it was on again", x.turn(layer, true), true);
        }
        Sentences.of(15, "Throws IndexOutOfBoundsException if there is no such layer");
        for (int layer : NO_LAYERS) {
            Due.refuses("on " + layer, IndexOutOfBoundsException.class, Halls::rich, y -> y.turn(layer, true));
            Due.refuses("off " + layer, IndexOutOfBoundsException.class, Halls::rich, y -> y.turn(layer, false));
        }
    }

    private static void entries() {
        Sentences.of(16, "Returns how many entries a layer has. layer: 0 to 3 Returns how many.");
        Stenohall x = new Stenohall();
        Due.entry(x, 0, "a", 1);
        Due.entry(x, 3, "a", 1);
        Due.entry(x, 3, "a", 2);
        Due.entry(x, 3, "b", 1);
        Due.type(x, "c", 1);
        x.alternative(3, 'a');
        x.turn(3, false);
        Due.is("one", x.entries(0), 1);
        Due.is("none", x.entries(1) + x.entries(2), 0);
        Due.is("two, off too", x.entries(3), 2);
        Sentences.of(16, "Throws IndexOutOfBoundsException if there is no such layer");
        for (int layer : NO_LAYERS) {
            Due.refuses("layer " + layer, IndexOutOfBoundsException.class, Halls::rich, y -> y.entries(layer));
        }
    }

    private static void translations() {
        Sentences.of(25, "Returns how many translations there are. Returns how many.");
        Stenohall x = new Stenohall();
        Due.is("none", x.translations(), 0);
        Due.strokes(x, 1, 2, 3);
        Due.is("three", x.translations(), 3);
        Due.entry(x, 0, "#", 2, 3);
        Due.is("two, though one writes nothing", x.translations(), 2);
        x.undo();
        x.undo();
        Due.is("one", x.translations(), 1);
    }

    private static void strokesOf() {
        Sentences.of(26, "Returns how many strokes a translation has. translation: the translation, from 0 Returns how many.");
        Stenohall x = new Stenohall();
        Halls.threeTranslations(x);
        Due.is("one of a miss", x.strokesOf(0), 1);
        Due.is("four", x.strokesOf(1), 4);
        Due.is("two", x.strokesOf(2), 2);
        Sentences.of(26, "Throws IndexOutOfBoundsException if there is no such translation");
        for (int index : new int[] {-1, 3, 7, 100, Integer.MIN_VALUE, Integer.MAX_VALUE}) {
            Due.refuses("strokesOf(" + index + ")", IndexOutOfBoundsException.class, Halls::threeTranslations, y -> y.strokesOf(index));
        }
        Due.fails("of none", IndexOutOfBoundsException.class, () -> new Stenohall().strokesOf(0));
    }

    private static void layerOf() {
        Sentences.of(27, "Returns the layer of the entry of a translation. translation: the translation, from 0 Returns the layer, -1 for a miss.");
        Stenohall x = new Stenohall();
        Halls.threeTranslations(x);
        Due.is("a miss", x.layerOf(0), -1);
        Due.is("of layer 3", x.layerOf(1), 3);
        Due.is("of layer 0", x.layerOf(2), 0);
        Sentences.of(27, "Throws IndexOutOfBoundsException if there is no such translation");
        for (int index : new int[] {-1, 3, 7, 100, Integer.MIN_VALUE, Integer.MAX_VALUE}) {
            Due.refuses("layerOf(" + index + ")", IndexOutOfBoundsException.class, Halls::threeTranslations, y -> y.layerOf(index));
        }
        Due.fails("of none", IndexOutOfBoundsException.class, () -> new Stenohall().layerOf(0));
    }

    private static void chosen() {
        Sentences.of(28, "Returns which content a translation has. translation: the translation, from 0 Returns 0 for that of the entry itself, else 1 more than the number of the alternative, from 0.");
        Stenohall x = new Stenohall();
        Halls.threeAlternatives(x);
        x.wipe();
        for (int i = 0; i < 4; i++) {
            Due.entry(x, 0, "" + "xabc".charAt(i), 2 + i);
            Due.strokes(x, 1, 2 + i);
        }
        for (int i = 0; i < 4; i++) {
            Due.is("the content " + i, x.chosen(2 * i), i);
            Due.is("without alternatives", x.chosen(2 * i + 1), 0);
        }
        x.stroke(99);
        Due.is("a miss", x.chosen(8), 0);
        Sentences.of(28, "Throws IndexOutOfBoundsException if there is no such translation");
        for (int index : new int[] {-1, 3, 7, 100, Integer.MIN_VALUE, Integer.MAX_VALUE}) {
            Due.refuses("chosen(" + index + ")", IndexOutOfBoundsException.class, Halls::threeTranslations, y -> y.chosen(index));
        }
        Due.fails("of none", IndexOutOfBoundsException.class, () -> new Stenohall().chosen(0));
    }
}
