import java.lang.reflect.InvocationTargetException;
import java.lang.reflect.Method;
import java.util.ArrayList;
import java.util.Arrays;
import java.util.List;
import java.util.concurrent.Callable;

/** Runs of calls picked by a fixed row of numbers, each answer compared with the model's, and all that can be asked after each change. */
public final class ModelTest {
    private static final int RUNS = 300;
    private static final int CALLS = 512;
    private static final String SIGNS = "aeiouybtchsxrwz^-<.,#|=";
    private static final String[] CONTENTS = {"cat", "bake", "cry", "run", "fox", "^ing", "^s", "^ed", "^", ".", ",", "|", "#", "<",
        "-", "=", "a^", "^er.", "-b", "yes", "box", "wish", "ab<c", "x#y", "^ly-s", "the.", ",|", "|a", "-.", "pay", "ee", "row", "rich", "quiz", "^er", "^s^"};

    private long seed;

    private ModelTest(long seed) {
        this.seed = seed;
    }

    private int pick(int below) {
        seed = seed * 6364136223846793005L + 1442695040888963407L;
        return (int) ((seed >>> 33) % below);
    }

    public static void main(String[] args) {
        int failed = 0;
        for (int run = 0; run < RUNS; run++) {
            String fault = new ModelTest(run * 7919L + 1).run(run % 6);
            if (fault != null) {
                failed++;
                System.out.println("run " + run + ": " + fault);
            }
        }
        System.out.println((RUNS - failed) + " passed, " + failed + " failed");
        if (failed > 0) {
            System.exit(1);
        }
    }

    private String run(int kind) {
        Stenohall hall = new Stenohall();
        Model model = new Model();
        List<String> told = new ArrayList<>();
        int calls = 0;
        while (calls < CALLS) {
            List<Object[]> planned = plan(kind, calls);
            for (Object[] call : planned) {
                calls++;
                String got = answer(() -> ask(hall, call));
                String due = answer(() -> ask(model, call));
                told.add(Arrays.toString(call) + " = " + got);
                if (!got.equals(due)) {
                    return tail(told) + ", due is " + due;
                }
            }
            String got = dump(hall);
            String due = dump(model);
            if (!got.equals(due)) {
                return tail(told) + "\n got " + got + "\n due " + due;
            }
        }
        return null;
    }

    private static String tail(List<String> told) {
        return told.subList(Math.max(0, told.size() - 60), told.size()).toString();
    }

    private static String answer(Callable<Object> call) {
        try {
            return String.valueOf(call.call());
        } catch (Exception e) {
            return e.getClass().getName();
        }
    }

    private int keys(int kind) {
        return kind == 4 ? pick(65538) - 1 : 1 + pick(kind < 2 ? 4 : 9);
    }

    private void typeStrokes(List<Object[]> calls, int kind) {
        for (int i = pick(3) == 0 ? 1 + pick(3) : 0; i >= 0; i--) {
            calls.add(new Object[] {"chord", keys(kind)});
        }
    }

    private void typeSigns(List<Object[]> calls) {
        if (pick(3) > 0) {
            for (char c : CONTENTS[pick(CONTENTS.length)].toCharArray()) {
                calls.add(new Object[] {"sign", c});
            }
        } else {
            for (int i = pick(5); i >= 0; i--) {
                calls.add(new Object[] {"sign", SIGNS.charAt(pick(SIGNS.length()))});
            }
        }
    }

    private void typeWord(List<Object[]> calls) {
        String[] words = {"cats", "bakes", "crys", "cried", "runing", "running", "foxs", "bakeing", "ab", "ing", "ca", "cat", "at",
            "un", "run", "he", "the", "ry"};
        for (char c : words[pick(words.length)].toCharArray()) {
            calls.add(new Object[] {"sign", c});
        }
    }

    private List<Object[]> plan(int kind, int calls) {
        List<Object[]> plan = new ArrayList<>();
        int what = calls < 120 && kind != 5 ? pick(8) : pick(40);
        if (what < 4) {
            typeStrokes(plan, kind);
            typeSigns(plan);
            plan.add(new Object[] {"entry", kind == 3 ? 1 : pick(4)});
        } else if (what == 4) {
            typeStrokes(plan, kind);
            typeSigns(plan);
            plan.add(new Object[] {"alternative", pick(2), "abcfr".charAt(pick(5))});
        } else if (what == 5) {
            typeWord(plan);
            plan.add(pick(2) == 0 ? new Object[] {"word"} : new Object[] {"contract", 26 + pick(39)});
        } else if (what == 6) {
            plan.add(new Object[] {"rule", "eydsx".charAt(pick(5))});
        } else if (what < 20) {
            plan.add(new Object[] {"stroke", keys(kind)});
        } else if (what < 26) {
            plan.add(new Object[] {pick(2) == 0 ? "down" : "up", pick(kind == 4 ? 17 : 3)});
        } else {
            plan.add(rare(kind));
        }
        return plan;
    }

    private Object[] rare(int kind) {
        switch (pick(17)) {
            case 0:
                return new Object[] {"mode", "lfx".charAt(pick(3))};
            case 1:
            case 2:
                return new Object[] {"undo"};
            case 3:
                return new Object[] {"wipe"};
            case 4:
                return new Object[] {"remove", pick(5) - 1};
            case 5:
                return new Object[] {"turn", pick(4), pick(3) > 0};
            case 6:
                return new Object[] {"forget"};
            case 7:
            case 8:
            case 9:
            case 10:
            case 11:
                return new Object[] {"tick"};
            case 12:
                return new Object[] {"sink", pick(5) == 0 ? pick(13) - 2 : pick(3)};
            case 13:
                return new Object[] {"paper", 9 + pick(kind == 2 ? 12 : 73), 1 + pick(31)};
            case 14:
                return new Object[] {"nearest", keys(kind)};
            case 15:
                return new Object[] {"entries", pick(6) - 1};
            default:
                return new Object[] {"chord", keys(kind)};
        }
    }

    /** Calls the method of that name, on the hall or on the model alike. */
    private static Object ask(Object on, Object[] call) throws Exception {
        for (Method m : on.getClass().getDeclaredMethods()) {
            if (m.getName().equals(call[0]) && m.getParameterCount() == call.length - 1) {
                try {
                    return m.invoke(on, Arrays.copyOfRange(call, 1, call.length));
                } catch (InvocationTargetException e) {
                    throw (Exception) e.getCause();
                }
            }
        }
        throw new AssertionError(call[0]);
    }

    private static String dump(Stenohall x) {
        StringBuilder s = new StringBuilder();
        for (int i = 0; i < x.strokes(); i++) s.append(x.strokeAt(i)).append(' ');
        s.append("text ");
        for (int i = 0; i < x.length(); i++) {
            s.append(x.at(i)).append(x.time(i)).append('/').append(x.lineOf(i)).append('/').append(x.pageOf(i)).append(' ');
        }
        s.append("translations ");
        for (int i = 0; i < x.translations(); i++) {
            s.append(x.strokesOf(i)).append('/').append(x.layerOf(i)).append('/').append(x.chosen(i)).append('/');
            s.append(x.fromOf(i)).append(' ');
        }
        s.append("cells ");
        for (int i = 0; i < x.brailleLength(); i++) s.append(x.cellAt(i)).append(' ');
        for (int i = 0; i < 4; i++) {
            final int sink = i;
            s.append("sink ").append(answer(() -> x.shown(sink))).append(answer(() -> x.takenBack(sink)));
            for (int k = 0; k < 12; k++) {
                final int index = k;
                s.append(answer(() -> x.shownAt(sink, index)));
            }
        }
        s.append(x.isWord()).append(x.lines()).append(' ').append(x.words()).append(' ').append(x.misses()).append(' ');
        s.append(x.saving()).append(' ').append(x.now()).append(' ').append(answer(x::brief)).append(' ');
        s.append(answer(x::delay)).append(' ').append(x.checksum()).append(x.isSound());
        return s.toString();
    }

    private static String dump(Model x) {
        StringBuilder s = new StringBuilder();
        for (int i = 0; i < x.strokes.size(); i++) s.append(x.strokeAt(i)).append(' ');
        s.append("text ");
        int[] lines = x.layout();
        for (int i = 0; i < x.text.length(); i++) {
            s.append(x.at(i)).append(x.time(i)).append('/').append(lines[i]).append('/').append(lines[i] / x.high).append(' ');
        }
        s.append("translations ");
        for (int i = 0; i < x.done.size(); i++) {
            s.append(x.done(i).outline.size()).append('/').append(x.done(i).layer).append('/').append(x.done(i).choice).append('/');
            s.append(x.fromOf(i)).append(' ');
        }
        s.append("cells ");
        for (int cell : x.cells()) s.append(cell).append(' ');
        for (int i = 0; i < 4; i++) {
            final int sink = i;
            s.append("sink ").append(answer(() -> x.shown(sink))).append(answer(() -> x.takenBack(sink)));
            for (int k = 0; k < 12; k++) {
                final int index = k;
                s.append(answer(() -> x.shownAt(sink, index)));
            }
        }
        s.append(x.isWord()).append(x.lines()).append(' ').append(x.words()).append(' ').append(x.misses()).append(' ');
        s.append(x.saving()).append(' ').append(x.kept.size()).append(' ').append(answer(x::brief)).append(' ');
        s.append(answer(x::delay)).append(' ').append(x.checksum()).append(true);
        return s.toString();
    }
}
