import java.util.function.Consumer;

/** Counts answers that are as due and prints those that are not. */
final class Due {
    private static int passed = 0;
    private static int failed = 0;
    private static String words = "";

    private Due() {
    }

    /** The words of the document that what follows is due by. */
    static void by(String told) {
        words = told;
    }

    static void is(String what, Object got, Object want) {
        if (want.equals(got)) {
            passed++;
        } else {
            failed++;
            System.out.println((words.isEmpty() ? "" : words + " -- ") + what + " answered " + got + ", due is " + want);
        }
    }

    /** The very class is due, none below it. */
    static void fails(String what, Class<? extends RuntimeException> want, Runnable call) {
        Object got = "nothing";
        try {
            call.run();
        } catch (RuntimeException e) {
            got = e.getClass();
        }
        is(what, got, want);
    }

    /** The call throws, and two halls alike answer alike in all, though only one of them refused it. */
    static void refuses(String what, Class<? extends RuntimeException> want, Consumer<Stenohall> recipe, Consumer<Stenohall> call) {
        Stenohall x = new Stenohall();
        Stenohall y = new Stenohall();
        recipe.accept(x);
        recipe.accept(y);
        fails(what, want, () -> call.accept(x));
        is(what + " changes nothing: the hall", Portrait.of(x), Portrait.of(y));
    }

    static void end() {
        System.out.println(passed + " passed, " + failed + " failed");
        if (failed > 0) {
            System.exit(1);
        }
    }

    /** Types an outline and signs. */
    static void type(Stenohall x, String signs, int... strokes) {
        for (int stroke : strokes) {
            x.chord(stroke);
        }
        for (char sign : signs.toCharArray()) {
            x.sign(sign);
        }
    }

    static void entry(Stenohall x, int layer, String content, int... outline) {
        type(x, content, outline);
        x.entry(layer);
    }

    static void words(Stenohall x, String... words) {
        for (String word : words) {
            type(x, word);
            x.word();
        }
    }

    static void strokes(Stenohall x, int... strokes) {
        for (int stroke : strokes) {
            x.stroke(stroke);
        }
    }

    static String text(Stenohall x) {
        StringBuilder s = new StringBuilder();
        for (int i = 0; i < x.length(); i++) {
            s.append(x.at(i));
        }
        return s.toString();
    }

    static String kept(Stenohall x) {
        StringBuilder s = new StringBuilder();
        for (int i = 0; i < x.strokes(); i++) {
            s.append(i > 0 ? " " : "").append(x.strokeAt(i));
        }
        return s.toString();
    }

    static String times(Stenohall x) {
        StringBuilder s = new StringBuilder();
        for (int i = 0; i < x.length(); i++) {
            s.append(x.time(i));
        }
        return s.toString();
    }

    static String lines(Stenohall x) {
        StringBuilder s = new StringBuilder();
        for (int i = 0; i < x.length(); i++) {
            s.append(x.lineOf(i));
        }
        return s.toString();
    }

    static String cells(Stenohall x) {
        StringBuilder s = new StringBuilder();
        for (int i = 0; i < x.brailleLength(); i++) {
            s.append(i > 0 ? " " : "").append(x.cellAt(i));
        }
        return s.toString();
    }

    static String shown(Stenohall x, int sink) {
        StringBuilder s = new StringBuilder();
        for (int i = 0; i < x.shown(sink); i++) {
            s.append(x.shownAt(sink, i));
        }
        return s.toString();
    }

    /** Writes these contents one behind the other, each by an entry of its own, strokes 1, 2, ... */
    static Stenohall written(String... contents) {
        Stenohall x = new Stenohall();
        write(x, contents);
        return x;
    }

    static void write(Stenohall x, String... contents) {
        for (int i = 0; i < contents.length; i++) {
            if (!contents[i].equals("??")) {
                entry(x, 0, contents[i], i + 1);
            }
        }
        for (int i = 0; i < contents.length; i++) {
            x.stroke(i + 1);
        }
    }

    /** What is written by a word and a suffix behind it, by rules and words. */
    static String joined(String rules, String word, String suffix, String... words) {
        Stenohall x = new Stenohall();
        for (char rule : rules.toCharArray()) {
            x.rule(rule);
        }
        words(x, words);
        write(x, word, "^" + suffix);
        return text(x);
    }
}
