import java.util.concurrent.Callable;

/** All that can be found out about a hall, as a text. Finding it out changes the hall. */
final class Portrait {
    private final Stenohall x;
    private final StringBuilder text = new StringBuilder();

    private Portrait(Stenohall x) {
        this.x = x;
    }

    static String of(Stenohall x) {
        Portrait p = new Portrait(x);
        p.seen();
        p.keys();
        p.typed();
        p.told();
        return p.text.toString();
    }

    private void put(String what, Callable<Object> call) {
        String answer;
        try {
            answer = String.valueOf(call.call());
        } catch (Exception e) {
            answer = e.getClass().getSimpleName();
        }
        text.append(what).append(' ').append(answer).append("; ");
    }

    /** A long text is looked at by its ends and its checksum: an object is used for 512 calls at most. */
    private void seen() {
        put("strokes", x::strokes);
        for (int i : new int[] {0, 1, 2, 3, x.strokes() - 1}) {
            put("strokeAt", () -> x.strokeAt(i));
        }
        put("length", x::length);
        put("checksum", x::checksum);
        for (int i : new int[] {0, 1, 2, 3, 4, 5, x.length() - 1}) {
            put("at", () -> x.at(i));
            put("time", () -> x.time(i));
            put("lineOf", () -> x.lineOf(i));
            put("pageOf", () -> x.pageOf(i));
        }
        put("words", x::words);
        put("translations", x::translations);
        for (int i : new int[] {0, 1, x.translations() - 1}) {
            put("strokesOf", () -> x.strokesOf(i));
            put("layerOf", () -> x.layerOf(i));
            put("chosen", () -> x.chosen(i));
            put("fromOf", () -> x.fromOf(i));
        }
        put("lines", x::lines);
        put("brailleLength", x::brailleLength);
        put("cellAt", () -> x.cellAt(0));
        put("now", x::now);
        sinks();
        learnt();
    }

    private void sinks() {
        for (int i = 0; i < 4; i++) {
            int sink = i;
            put("shown", () -> x.shown(sink));
            put("shownAt", () -> x.shownAt(sink, 0));
            put("takenBack", () -> x.takenBack(sink));
        }
    }

    private void learnt() {
        put("misses", x::misses);
        put("saving", x::saving);
        put("brief", x::brief);
        put("delay", x::delay);
        put("isSound", x::isSound);
        put("isWord", x::isWord);
        for (int i = 0; i < 4; i++) {
            int layer = i;
            put("entries", () -> x.entries(layer));
        }
        for (int stroke : new int[] {1, 2, 12, 65535}) {
            put("nearest", () -> x.nearest(stroke));
        }
    }

    /** A dozen undone make room for strokes of the keys that are down, and for those by which typed() looks. */
    private void keys() {
        for (int i = 0; i < 12; i++) {
            put("undo", x::undo);
        }
        for (int i = 0; i < 16; i++) {
            int key = i;
            put("up", () -> x.up(key));
        }
        put("mode", () -> x.mode('l'));
    }

    /** What is typed goes into an entry, whose outline is 1, 1 1, 1 2 1, 1 2 3 1 or 1 2 3 4 if 1 2 3 4 was begun. */
    private void typed() {
        put("chord", () -> x.chord(1));
        put("sign", () -> x.sign('q'));
        put("entry", () -> x.entry(3));
        put("wipe", x::wipe);
        for (int stroke : new int[] {1, 1, 2, 1, 2, 3, 1, 2, 3, 4}) {
            put("stroke", () -> x.stroke(stroke));
        }
        for (int i : new int[] {x.length() - 30, x.length() - 20, x.length() - 12, x.length() - 5, x.length() - 2}) {
            put("at", () -> x.at(i));
        }
        put("checksum", x::checksum);
    }

    private void told() {
        for (char c : "eyds".toCharArray()) {
            put("rule", () -> x.rule(c));
        }
        put("forget", x::forget);
        for (int i = 0; i < 4; i++) {
            int layer = i;
            put("turn", () -> x.turn(layer, true));
            Due.type(x, "a", 1);
            put("alternative", () -> x.alternative(layer, 'q'));
            put("wipe", x::wipe);
        }
        Due.type(x, "zqz");
        put("word", x::word);
        put("wipe", x::wipe);
        Due.type(x, "zqz");
        put("contract", () -> x.contract(63));
        put("wipe", x::wipe);
        put("paper", () -> x.paper(40, 10));
        put("sink", () -> x.sink(0));
        put("tick", x::tick);
        sinks();
    }
}
