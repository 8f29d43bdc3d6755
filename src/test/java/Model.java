import java.util.ArrayList;
import java.util.HashMap;
import java.util.HashSet;
import java.util.List;
import java.util.Map;
import java.util.NoSuchElementException;
import java.util.Set;
import java.util.TreeMap;

/** The document told once more, with the library and without a thought for room: the runs in ModelTest compare with it. */
final class Model {
    static final class Kept {
        String content;
        final List<Character> letters = new ArrayList<>();
        final List<String> others = new ArrayList<>();
    }

    static final class Done {
        final List<Integer> outline;
        final int layer;
        final int lastTick;
        Kept kept;
        int choice;

        Done(List<Integer> outline, int layer, Kept kept, int lastTick) {
            this.outline = outline;
            this.layer = layer;
            this.kept = kept;
            this.lastTick = lastTick;
        }

        String content() {
            return kept == null ? "??" : choice == 0 ? kept.content : kept.others.get(choice - 1);
        }
    }

    char mode = 'l';
    final Set<Integer> held = new HashSet<>();
    int since;
    boolean fresh;
    List<int[]> strokes = new ArrayList<>();
    List<Integer> chords = new ArrayList<>();
    String typed = "";
    final List<Map<List<Integer>, Kept>> layers = new ArrayList<>();
    final boolean[] on = {true, true, true, true};
    final Set<String> words = new HashSet<>();
    String rules = "";
    final List<String> kept = new ArrayList<>();
    final List<int[]> sinks = new ArrayList<>();
    final List<String> shown = new ArrayList<>();
    int width = 40;
    int high = 10;
    final Map<String, Integer> contractions = new HashMap<>();

    List<Done> done = new ArrayList<>();
    StringBuilder text = new StringBuilder();
    List<Integer> writers = new ArrayList<>();
    boolean due;

    Model() {
        for (int i = 0; i < 4; i++) {
            layers.add(new HashMap<>());
        }
    }

    boolean mode(char c) {
        if ("lf".indexOf(c) < 0) throw new IllegalArgumentException();
        if (!held.isEmpty()) throw new IllegalStateException();
        boolean other = c != mode;
        mode = c;
        fresh = false;
        return other;
    }

    int down(int key) {
        if (key < 0 || key > 15) throw new IndexOutOfBoundsException();
        if (!held.add(key)) throw new UnsupportedOperationException();
        since |= 1 << key;
        fresh = true;
        return held.size();
    }

    int bits() {
        int sum = 0;
        for (int key : held) sum += 1 << key;
        return sum;
    }

    int up(int key) {
        if (key < 0 || key > 15) throw new IndexOutOfBoundsException();
        if (!held.contains(key)) throw new UnsupportedOperationException();
        boolean makes = mode == 'l' ? held.size() == 1 : fresh;
        int made = makes ? mode == 'l' ? since : bits() : 0;
        if (makes && strokes.size() == 100) throw new IllegalStateException();
        held.remove(key);
        if (held.isEmpty()) since = 0;
        if (makes) add(made);
        return made;
    }

    void add(int keys) {
        strokes.add(new int[] {keys, kept.size()});
        fresh = false;
        renew();
    }

    int stroke(int keys) {
        if (keys < 1 || keys > 65535) throw new IllegalArgumentException();
        if (strokes.size() == 100) throw new IllegalStateException();
        add(keys);
        return strokes.size();
    }

    int undo() {
        if (strokes.isEmpty()) throw new NoSuchElementException();
        int last = strokes.remove(strokes.size() - 1)[0];
        renew();
        return last;
    }

    int strokeAt(int i) {
        if (i < 0 || i >= strokes.size()) throw new IndexOutOfBoundsException();
        return strokes.get(i)[0];
    }

    int chord(int keys) {
        if (keys < 1 || keys > 65535) throw new IllegalArgumentException();
        if (chords.size() == 4) throw new IllegalStateException();
        chords.add(keys);
        return chords.size();
    }

    int sign(char c) {
        if (!"abcdefghijklmnopqrstuvwxyz^-<.,#|=".contains("" + c)) throw new IllegalArgumentException();
        if (typed.length() == 12) throw new IllegalStateException();
        typed += c;
        return typed.length();
    }

    int wipe() {
        int count = chords.size() + typed.length();
        chords = new ArrayList<>();
        typed = "";
        return count;
    }

    boolean entry(int layer) {
        if (layer < 0 || layer > 3) throw new IndexOutOfBoundsException();
        if (chords.isEmpty() || typed.isEmpty()) throw new UnsupportedOperationException();
        Map<List<Integer>, Kept> map = layers.get(layer);
        boolean was = map.containsKey(chords);
        if (!was && map.size() == 40) throw new IllegalStateException();
        Kept made = new Kept();
        made.content = typed;
        map.put(chords, made);
        wipe();
        renew();
        return was;
    }

    int alternative(int layer, char letter) {
        if (layer < 0 || layer > 3) throw new IndexOutOfBoundsException();
        if (letter < 'a' || letter > 'z') throw new IllegalArgumentException();
        Kept entry = layers.get(layer).get(chords);
        if (typed.isEmpty() || entry == null) throw new UnsupportedOperationException();
        if (entry.letters.size() == 3) throw new IllegalStateException();
        entry.letters.add(letter);
        entry.others.add(typed);
        wipe();
        renew();
        return entry.letters.size();
    }

    boolean remove(int layer) {
        if (layer < 0 || layer > 3) throw new IndexOutOfBoundsException();
        boolean was = layers.get(layer).remove(chords) != null;
        wipe();
        renew();
        return was;
    }

    boolean turn(int layer, boolean isOn) {
        if (layer < 0 || layer > 3) throw new IndexOutOfBoundsException();
        boolean was = on[layer];
        on[layer] = isOn;
        renew();
        return was;
    }

    int entries(int layer) {
        if (layer < 0 || layer > 3) throw new IndexOutOfBoundsException();
        return layers.get(layer).size();
    }

    int word() {
        if (!typed.matches("[a-z]+")) throw new UnsupportedOperationException();
        if (words.size() == 60) throw new IllegalStateException();
        words.add(typed);
        typed = "";
        renew();
        return words.size();
    }

    boolean isWord() {
        return words.contains(typed);
    }

    int rule(char c) {
        if (c != 'e' && c != 'y' && c != 'd' && c != 's') throw new IllegalArgumentException();
        if (rules.indexOf(c) >= 0) throw new UnsupportedOperationException();
        rules += c;
        renew();
        return rules.length();
    }

    int forget() {
        int count = rules.length();
        rules = "";
        renew();
        return count;
    }

    void renew() {
        while (!translate()) {
            // What was undone is gone; the rest begins anew.
        }
        for (int i = 0; i + 1 < done.size(); i++) {
            Kept mine = done.get(i).kept;
            Kept next = done.get(i + 1).kept;
            if (mine == null || next == null) continue;
            String letters = next.content.replaceAll("[^a-z]", "");
            int at = letters.isEmpty() ? -1 : mine.letters.indexOf(letters.charAt(0));
            done.get(i).choice = at + 1;
        }
        write();
    }

    boolean translate() {
        done = new ArrayList<>();
        for (int i = 0; i < strokes.size(); i++) {
            Done made = null;
            int gone = 0;
            for (int back = Math.min(3, done.size()); back >= 0 && made == null; back--) {
                List<Integer> outline = new ArrayList<>();
                for (Done d : done.subList(done.size() - back, done.size())) outline.addAll(d.outline);
                outline.add(strokes.get(i)[0]);
                for (int layer = 3; layer >= 0 && made == null; layer--) {
                    Kept found = layers.get(layer).get(outline);
                    if (on[layer] && found != null) {
                        made = new Done(outline, layer, found, strokes.get(i)[1]);
                        gone = back;
                    }
                }
            }
            if (made == null) made = new Done(List.of(strokes.get(i)[0]), -1, null, strokes.get(i)[1]);
            if (made.kept != null && made.kept.content.equals("=")) {
                int from = Math.max(0, i - made.outline.size());
                List<int[]> left = new ArrayList<>(strokes.subList(0, from));
                left.addAll(strokes.subList(i + 1, strokes.size()));
                strokes = left;
                return false;
            }
            done = new ArrayList<>(done.subList(0, done.size() - gone));
            done.add(made);
        }
        return true;
    }

    void write() {
        text = new StringBuilder();
        writers = new ArrayList<>();
        due = false;
        for (int t = 0; t < done.size(); t++) {
            String content = done.get(t).content();
            boolean glued = "^.,".indexOf(content.charAt(0)) >= 0 || t > 0 && done.get(t - 1).content().endsWith("^");
            boolean first = true;
            int from = 0;
            if (content.startsWith("^")) {
                int end = 1;
                while (end < content.length() && Character.isLetter(content.charAt(end))) end++;
                suffix(content.substring(1, end), t);
                from = end;
            }
            for (char c : content.substring(from).toCharArray()) {
                if (Character.isLetter(c) || "?.,|".indexOf(c) >= 0) {
                    boolean blank = first && !glued && c != '|' && text.length() > 0 && !text.toString().endsWith("|");
                    first = false;
                    if (blank) put(' ', t);
                    if (Character.isLetter(c) && due) {
                        c = Character.toUpperCase(c);
                        due = false;
                    }
                    put(c, t);
                    if (c == '.') due = true;
                } else if (c == '-') {
                    due = true;
                } else if (c == '<' && lastWord() >= 0) {
                    int at = lastWord();
                    if (Character.isLowerCase(text.charAt(at))) {
                        text.setCharAt(at, Character.toUpperCase(text.charAt(at)));
                        writers.set(at, t);
                    }
                } else if (c == '#' && lastWord() >= 0) {
                    int at = lastWord();
                    cut(at > 0 && text.charAt(at - 1) == ' ' ? at - 1 : at);
                }
            }
        }
    }

    void put(char c, int t) {
        text.append(c);
        writers.add(t);
    }

    void cut(int rest) {
        text.setLength(rest);
        writers = new ArrayList<>(writers.subList(0, rest));
    }

    int lastWord() {
        java.util.regex.Matcher m = java.util.regex.Pattern.compile("[A-Za-z]+").matcher(text);
        int at = -1;
        while (m.find()) at = m.start();
        return at;
    }

    void suffix(String suffix, int t) {
        String whole = text.toString();
        String word = whole.replaceAll("^.*[^A-Za-z]", "");
        String low = word.toLowerCase();
        if (!word.isEmpty() && !suffix.isEmpty()) {
            List<Character> holding = new ArrayList<>();
            for (char rule : rules.toCharArray()) if (holds(rule, low, suffix)) holding.add(rule);
            holding.add('p');
            char taken = holding.get(0);
            for (int i = holding.size() - 1; i >= 0; i--) {
                if (words.contains(joined(holding.get(i), low, suffix))) taken = holding.get(i);
            }
            String between = joined(taken, low, "");
            int stay = 0;
            while (stay < low.length() && stay < between.length() && low.charAt(stay) == between.charAt(stay)) stay++;
            cut(whole.length() - low.length() + stay);
            for (char c : between.substring(stay).toCharArray()) put(c, t);
        }
        for (char c : suffix.toCharArray()) {
            put(due ? Character.toUpperCase(c) : c, t);
            due = false;
        }
    }

    static boolean holds(char rule, String word, String suffix) {
        boolean vowel = suffix.matches("[aeiou].*");
        switch (rule) {
            case 'e':
                return word.endsWith("e") && vowel;
            case 'y':
                return word.matches(".*[^aeiou]y") && !suffix.startsWith("i");
            case 'd':
                return word.matches(".*[^aeiou][aeiou][^aeiouwxy]") && vowel;
            default:
                return suffix.equals("s") && word.matches(".*(s|x|z|ch|sh)");
        }
    }

    static String joined(char rule, String word, String suffix) {
        String front = word.substring(0, word.length() - 1);
        switch (rule) {
            case 'e':
                return front + suffix;
            case 'y':
                return front + "i" + suffix;
            case 'd':
                return word + word.charAt(word.length() - 1) + suffix;
            case 's':
                return word + "e" + suffix;
            default:
                return word + suffix;
        }
    }

    char at(int i) {
        if (i < 0 || i >= text.length()) throw new IndexOutOfBoundsException();
        return text.charAt(i);
    }

    int time(int i) {
        at(i);
        return done.get(writers.get(i)).lastTick;
    }

    int words() {
        int count = 0;
        for (String piece : text.toString().split("[^A-Za-z]+")) if (!piece.isEmpty()) count++;
        return count;
    }

    Done done(int i) {
        if (i < 0 || i >= done.size()) throw new IndexOutOfBoundsException();
        return done.get(i);
    }

    int fromOf(int i) {
        done(i);
        return writers.indexOf(i);
    }

    int tick() {
        if (kept.size() == 400) throw new IllegalStateException();
        kept.add(text.toString());
        for (int i = 0; i < sinks.size(); i++) {
            int at = kept.size() - 1 - sinks.get(i)[0];
            String before = shown.get(i);
            String then = at < 0 ? "" : kept.get(at);
            int same = 0;
            while (same < before.length() && same < then.length() && before.charAt(same) == then.charAt(same)) same++;
            sinks.get(i)[1] += before.length() - same;
            shown.set(i, then);
        }
        return kept.size();
    }

    int sink(int delay) {
        if (delay < 0 || delay > 9) throw new IllegalArgumentException();
        if (sinks.size() == 4) throw new IllegalStateException();
        sinks.add(new int[] {delay, 0});
        shown.add("");
        return sinks.size() - 1;
    }

    int shown(int i) {
        if (i < 0 || i >= sinks.size()) throw new IndexOutOfBoundsException();
        return shown.get(i).length();
    }

    char shownAt(int i, int index) {
        shown(i);
        if (index < 0 || index >= shown.get(i).length()) throw new NoSuchElementException();
        return shown.get(i).charAt(index);
    }

    int takenBack(int i) {
        shown(i);
        return sinks.get(i)[1];
    }

    int paper(int w, int h) {
        if (w < 10 || w > 80 || h < 2 || h > 30) throw new IllegalArgumentException();
        int before = 100 * width + high;
        width = w;
        high = h;
        return before;
    }

    /** Lays the paragraphs between line ends one by one. */
    int[] layout() {
        int[] lines = new int[text.length()];
        int line = -1;
        int i = 0;
        while (i < text.length()) {
            int end = text.indexOf("|", i);
            end = end < 0 ? text.length() : end;
            line++;
            int free = width;
            while (i < end) {
                int stop = text.indexOf(" ", i);
                stop = stop < 0 || stop > end ? end : stop;
                int size = stop - i;
                boolean isFirst = free == width;
                if (!isFirst && free >= size + 1) {
                    lines[i - 1] = line;
                    free--;
                } else if (!isFirst) {
                    lines[i - 1] = line;
                    line++;
                    free = width;
                }
                for (; i < stop; i++) {
                    if (free == 0) {
                        line++;
                        free = width;
                    }
                    lines[i] = line;
                    free--;
                }
                if (i < end) i++;
            }
            if (end < text.length()) {
                lines[end] = line;
            }
            i = end + 1;
        }
        return lines;
    }

    int lines() {
        return text.length() == 0 ? 0 : layout()[text.length() - 1] + 1;
    }

    int lineOf(int i) {
        at(i);
        return layout()[i];
    }

    int contract(int cell) {
        if (cell < 27 || cell > 63) throw new IllegalArgumentException();
        if (!typed.matches("[a-z]{2,4}") || contractions.containsKey(typed) || contractions.containsValue(cell)) {
            throw new UnsupportedOperationException();
        }
        if (contractions.size() == 20) throw new IllegalStateException();
        contractions.put(typed, cell);
        typed = "";
        return contractions.size();
    }

    List<Integer> cells() {
        List<Integer> cells = new ArrayList<>();
        int i = 0;
        while (i < text.length()) {
            char c = text.charAt(i);
            if (Character.isUpperCase(c)) cells.add(64);
            int taken = 0;
            for (int size = 4; size >= 2 && taken == 0; size--) {
                if (i + size > text.length()) continue;
                String piece = text.substring(i, i + size);
                piece = piece.substring(0, 1).toLowerCase() + piece.substring(1);
                if (contractions.containsKey(piece)) {
                    cells.add(contractions.get(piece));
                    taken = size;
                }
            }
            if (taken == 0) {
                cells.add(Character.isLetter(c) ? Character.toLowerCase(c) - 96 : c == ' ' ? 0 : 66 + "|.,?".indexOf(c));
            }
            i += Math.max(1, taken);
        }
        return cells;
    }

    int cellAt(int i) {
        List<Integer> cells = cells();
        if (i < 0 || i >= cells.size()) throw new IndexOutOfBoundsException();
        return cells.get(i);
    }

    int misses() {
        Set<Integer> set = new HashSet<>();
        for (Done d : done) if (d.kept == null) set.addAll(d.outline);
        return set.size();
    }

    int nearest(int stroke) {
        if (stroke < 1 || stroke > 65535) throw new IllegalArgumentException();
        TreeMap<Integer, Integer> found = new TreeMap<>();
        for (int layer = 0; layer < 4; layer++) {
            for (List<Integer> outline : layers.get(layer).keySet()) {
                if (on[layer] && outline.size() == 1) {
                    int keys = outline.get(0);
                    found.merge(Integer.bitCount(keys ^ stroke), keys, Math::min);
                }
            }
        }
        if (found.isEmpty()) throw new NoSuchElementException();
        return found.firstEntry().getValue();
    }

    int saving() {
        Map<String, Integer> times = new HashMap<>();
        Map<String, Integer> last = new HashMap<>();
        for (Done d : done) {
            if (d.kept != null) {
                times.merge(d.content(), 1, Integer::sum);
                last.put(d.content(), d.outline.size());
            }
        }
        int best = 0;
        for (String content : times.keySet()) best = Math.max(best, times.get(content) * (last.get(content) - 1));
        return best;
    }

    float brief() {
        if (strokes.isEmpty()) throw new ArithmeticException();
        return (float) text.length() / (float) strokes.size();
    }

    double delay() {
        int n = strokes.size();
        if (n < 2) throw new ArithmeticException();
        return (double) (strokes.get(n - 1)[1] - strokes.get(0)[1]) / (double) (n - 1);
    }

    long checksum() {
        long sum = 7;
        for (char c : text.toString().toCharArray()) sum = sum * 31 + (c == '|' ? 10 : c);
        for (Done d : done) sum = sum * 31 + d.outline.size();
        return sum;
    }
}
