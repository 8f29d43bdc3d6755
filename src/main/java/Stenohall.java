import java.util.NoSuchElementException;

/** A hall in which words are taken down by strokes of many keys. */
public final class Stenohall {
    private static final int KEYS = 16;
    private static final int MOST_KEYS = 65535;
    private static final int MOST_STROKES = 100;
    private static final int MOST_OUTLINE = 4;
    private static final int MOST_CONTENT = 12;
    private static final int LAYERS = 4;
    private static final int MOST_ENTRIES = 40;
    private static final int MOST_ALTERNATIVES = 3;
    private static final int MOST_WORDS = 60;
    private static final int MOST_TICKS = 400;
    private static final int MOST_SINKS = 4;
    private static final int MOST_DELAY = 9;
    private static final int MOST_CONTRACTIONS = 20;
    /** A translation writes no more than its content, and a blank or a letter that a join puts in. */
    private static final int MOST_SIGNS = MOST_STROKES * (MOST_CONTENT + 1);
    private static final String COMMANDS = "^-<.,#|=";
    private static final String RULES = "eyds";

    private final Keyboard keyboard;
    private final Row typedStrokes;
    private final Row typedSigns;
    private final Dictionary dictionary;
    private final Joins joins;
    private final Transcript script;
    private final Text text;
    private final Transcript secondScript;
    private final Text secondText;
    private final Sinks outlets;
    private final Layout layout;
    private final Braille braille;

    public Stenohall() {
        keyboard = new Keyboard();
        typedStrokes = new Row(MOST_OUTLINE);
        typedSigns = new Row(MOST_CONTENT);
        dictionary = new Dictionary();
        joins = new Joins();
        script = new Transcript();
        text = new Text();
        secondScript = new Transcript();
        secondText = new Text();
        outlets = new Sinks();
        layout = new Layout();
        braille = new Braille();
    }

    // Keys and strokes

    public boolean mode(char mode) throws IllegalArgumentException, IllegalStateException {
        if (mode != 'l' && mode != 'f') {
            throw new IllegalArgumentException("no such mode");
        }
        if (keyboard.held != 0) {
            throw new IllegalStateException("a key is down");
        }
        boolean isOther = keyboard.kind != mode;
        keyboard.kind = mode;
        keyboard.isNewDown = false;
        return isOther;
    }

    public int down(int key) throws IndexOutOfBoundsException, UnsupportedOperationException {
        if (key < 0 || key >= KEYS) {
            throw new IndexOutOfBoundsException("no such key");
        }
        if (keyboard.isHeld(key)) {
            throw new UnsupportedOperationException("the key is down");
        }
        keyboard.press(key);
        return Integer.bitCount(keyboard.held);
    }

    public int up(int key) throws IndexOutOfBoundsException, UnsupportedOperationException, IllegalStateException {
        if (key < 0 || key >= KEYS) {
            throw new IndexOutOfBoundsException("no such key");
        }
        if (!keyboard.isHeld(key)) {
            throw new UnsupportedOperationException("the key is up");
        }
        int made = keyboard.madeByRelease(key);
        if (made != 0 && script.strokes.size >= MOST_STROKES) {
            throw new IllegalStateException("too many strokes");
        }
        keyboard.release(key);
        if (made != 0) {
            keyboard.isNewDown = false;
            script.keep(made, outlets.ended);
            renew();
        }
        return made;
    }

    public int stroke(int keys) throws IllegalArgumentException, IllegalStateException {
        if (!isKeys(keys)) {
            throw new IllegalArgumentException("no such stroke");
        }
        if (script.strokes.size >= MOST_STROKES) {
            throw new IllegalStateException("too many strokes");
        }
        keyboard.isNewDown = false;
        script.keep(keys, outlets.ended);
        renew();
        return script.strokes.size;
    }

    public int undo() throws NoSuchElementException {
        int last = script.strokes.size - 1;
        if (last < 0) {
            throw new NoSuchElementException("no stroke");
        }
        int undone = script.strokes.get(last);
        script.drop(last, last + 1);
        renew();
        return undone;
    }

    public int strokes() {
        return script.strokes.size;
    }

    public int strokeAt(int index) throws IndexOutOfBoundsException {
        if (index < 0 || index >= script.strokes.size) {
            throw new IndexOutOfBoundsException("no such stroke");
        }
        return script.strokes.get(index);
    }

    // Dictionaries

    public int chord(int keys) throws IllegalArgumentException, IllegalStateException {
        if (!isKeys(keys)) {
            throw new IllegalArgumentException("no such stroke");
        }
        if (typedStrokes.size >= MOST_OUTLINE) {
            throw new IllegalStateException("too many strokes are typed");
        }
        typedStrokes.push(keys);
        return typedStrokes.size;
    }

    public int sign(char sign) throws IllegalArgumentException, IllegalStateException {
        if (!isSmall(sign) && COMMANDS.indexOf(sign) < 0) {
            throw new IllegalArgumentException("no such sign");
        }
        if (typedSigns.size >= MOST_CONTENT) {
            throw new IllegalStateException("too many signs are typed");
        }
        typedSigns.push(sign);
        return typedSigns.size;
    }

    public int wipe() {
        int typed = typedStrokes.size + typedSigns.size;
        clearTyped();
        return typed;
    }

    public boolean entry(int layer) throws IndexOutOfBoundsException, UnsupportedOperationException, IllegalStateException {
        if (!isLayer(layer)) {
            throw new IndexOutOfBoundsException("no such layer");
        }
        if (typedStrokes.size == 0 || typedSigns.size == 0) {
            throw new UnsupportedOperationException("too little is typed");
        }
        int place = dictionary.placeOf(layer, typedStrokes);
        if (place < 0 && dictionary.sizes.get(layer) >= MOST_ENTRIES) {
            throw new IllegalStateException("too many entries");
        }
        Entry made = new Entry(layer);
        made.outline.takeFrom(typedStrokes);
        made.content.takeFrom(typedSigns);
        if (place < 0) {
            dictionary.add(made);
        } else {
            dictionary.replace(place, made);
        }
        clearTyped();
        renew();
        return place >= 0;
    }

    public int alternative(int layer, char letter)
            throws IndexOutOfBoundsException, IllegalArgumentException, UnsupportedOperationException, IllegalStateException {
        if (!isLayer(layer)) {
            throw new IndexOutOfBoundsException("no such layer");
        }
        if (!isSmall(letter)) {
            throw new IllegalArgumentException("no letter");
        }
        Entry entry = dictionary.get(dictionary.placeOf(layer, typedStrokes));
        if (typedSigns.size == 0 || entry == null) {
            throw new UnsupportedOperationException("no sign is typed, or no such entry");
        }
        if (entry.letters.size >= MOST_ALTERNATIVES) {
            throw new IllegalStateException("too many alternatives");
        }
        entry.addAlternative(letter, typedSigns);
        clearTyped();
        renew();
        return entry.letters.size;
    }

    public boolean remove(int layer) throws IndexOutOfBoundsException {
        if (!isLayer(layer)) {
            throw new IndexOutOfBoundsException("no such layer");
        }
        int place = dictionary.placeOf(layer, typedStrokes);
        clearTyped();
        if (place < 0) {
            return false;
        }
        dictionary.takeOut(place);
        renew();
        return true;
    }

    public boolean turn(int layer, boolean isOn) throws IndexOutOfBoundsException {
        if (!isLayer(layer)) {
            throw new IndexOutOfBoundsException("no such layer");
        }
        boolean wasOn = dictionary.isOn(layer);
        dictionary.setOn(layer, isOn);
        renew();
        return wasOn;
    }

    public int entries(int layer) throws IndexOutOfBoundsException {
        if (!isLayer(layer)) {
            throw new IndexOutOfBoundsException("no such layer");
        }
        return dictionary.sizes.get(layer);
    }

    // Words and rules of joins

    public int word() throws UnsupportedOperationException, IllegalStateException {
        if (typedSigns.size == 0 || !areLetters(typedSigns)) {
            throw new UnsupportedOperationException("no word is typed");
        }
        if (joins.size >= MOST_WORDS) {
            throw new IllegalStateException("too many words");
        }
        joins.addWord(typedSigns);
        typedSigns.cut(0);
        renew();
        return joins.size;
    }

    public boolean isWord() {
        return joins.isListed(typedSigns);
    }

    public int rule(char rule) throws IllegalArgumentException, UnsupportedOperationException {
        if (RULES.indexOf(rule) < 0) {
            throw new IllegalArgumentException("no such rule");
        }
        if (joins.rules.indexOf(rule) >= 0) {
            throw new UnsupportedOperationException("the rule was told");
        }
        joins.rules.push(rule);
        renew();
        return joins.rules.size;
    }

    public int forget() {
        int told = joins.rules.size;
        joins.rules.cut(0);
        renew();
        return told;
    }

    // The text

    public int length() {
        return text.signs.size;
    }

    public char at(int index) throws IndexOutOfBoundsException {
        if (!isWritten(index)) {
            throw new IndexOutOfBoundsException("no such sign");
        }
        return (char) text.signs.get(index);
    }

    public int time(int index) throws IndexOutOfBoundsException {
        if (!isWritten(index)) {
            throw new IndexOutOfBoundsException("no such sign");
        }
        return script.tickOf(text.writers.get(index));
    }

    public int words() {
        return text.countWords();
    }

    public int translations() {
        return script.firsts.size;
    }

    public int strokesOf(int translation) throws IndexOutOfBoundsException {
        if (!isTranslation(translation)) {
            throw new IndexOutOfBoundsException("no such translation");
        }
        return script.counts.get(translation);
    }

    public int layerOf(int translation) throws IndexOutOfBoundsException {
        if (!isTranslation(translation)) {
            throw new IndexOutOfBoundsException("no such translation");
        }
        Entry entry = script.entryOf(translation);
        return entry == null ? -1 : entry.layer;
    }

    public int chosen(int translation) throws IndexOutOfBoundsException {
        if (!isTranslation(translation)) {
            throw new IndexOutOfBoundsException("no such translation");
        }
        return script.choices.get(translation);
    }

    public int fromOf(int translation) throws IndexOutOfBoundsException {
        if (!isTranslation(translation)) {
            throw new IndexOutOfBoundsException("no such translation");
        }
        return text.writers.indexOf(translation);
    }

    // Times and sinks

    public int tick() throws IllegalStateException {
        if (outlets.ended >= MOST_TICKS) {
            throw new IllegalStateException("too many ticks");
        }
        outlets.endTick(text.signs);
        return outlets.ended;
    }

    public int now() {
        return outlets.ended;
    }

    public int sink(int delay) throws IllegalArgumentException, IllegalStateException {
        if (delay < 0 || delay > MOST_DELAY) {
            throw new IllegalArgumentException("no such delay");
        }
        if (outlets.delays.size >= MOST_SINKS) {
            throw new IllegalStateException("too many sinks");
        }
        outlets.add(delay);
        return outlets.delays.size - 1;
    }

    public int shown(int sink) throws IndexOutOfBoundsException {
        if (!isSink(sink)) {
            throw new IndexOutOfBoundsException("no such sink");
        }
        return outlets.shownBy(sink).size;
    }

    public char shownAt(int sink, int index) throws IndexOutOfBoundsException, NoSuchElementException {
        if (!isSink(sink)) {
            throw new IndexOutOfBoundsException("no such sink");
        }
        Row signs = outlets.shownBy(sink);
        if (index < 0 || index >= signs.size) {
            throw new NoSuchElementException("no such sign");
        }
        return (char) signs.get(index);
    }

    public int takenBack(int sink) throws IndexOutOfBoundsException {
        if (!isSink(sink)) {
            throw new IndexOutOfBoundsException("no such sink");
        }
        return outlets.counts.get(sink);
    }

    // Lines and pages

    public int paper(int width, int lines) throws IllegalArgumentException {
        if (width < 10 || width > 80 || lines < 2 || lines > 30) {
            throw new IllegalArgumentException("no such paper");
        }
        int before = 100 * layout.width + layout.linesOfPage;
        layout.width = width;
        layout.linesOfPage = lines;
        layout.isFresh = false;
        return before;
    }

    public int lines() {
        layout.refresh(text.signs);
        return layout.countLines();
    }

    public int lineOf(int index) throws IndexOutOfBoundsException {
        if (!isWritten(index)) {
            throw new IndexOutOfBoundsException("no such sign");
        }
        layout.refresh(text.signs);
        return layout.places.get(index);
    }

    public int pageOf(int index) throws IndexOutOfBoundsException {
        if (!isWritten(index)) {
            throw new IndexOutOfBoundsException("no such sign");
        }
        layout.refresh(text.signs);
        return layout.pageAt(index);
    }

    // Braille

    public int contract(int cell) throws IllegalArgumentException, UnsupportedOperationException, IllegalStateException {
        if (cell < 27 || cell > 63) {
            throw new IllegalArgumentException("no such cell");
        }
        if (typedSigns.size < 2 || typedSigns.size > 4 || !areLetters(typedSigns)
                || braille.isTold(cell, typedSigns)) {
            throw new UnsupportedOperationException("no new contraction");
        }
        if (braille.numbers.size >= MOST_CONTRACTIONS) {
            throw new IllegalStateException("too many contractions");
        }
        braille.add(cell, typedSigns);
        typedSigns.cut(0);
        return braille.numbers.size;
    }

    public int brailleLength() {
        braille.refresh(text.signs);
        return braille.cells.size;
    }

    public int cellAt(int index) throws IndexOutOfBoundsException {
        braille.refresh(text.signs);
        if (index < 0 || index >= braille.cells.size) {
            throw new IndexOutOfBoundsException("no such cell");
        }
        return braille.cells.get(index);
    }

    // Learning

    public int misses() {
        return script.countMisses();
    }

    public int nearest(int stroke) throws IllegalArgumentException, NoSuchElementException {
        if (!isKeys(stroke)) {
            throw new IllegalArgumentException("no such stroke");
        }
        int found = dictionary.nearestTo(stroke);
        if (found == 0) {
            throw new NoSuchElementException("no such outline");
        }
        return found;
    }

    public int saving() {
        return script.greatestSaving();
    }

    public float brief() throws ArithmeticException {
        int count = script.strokes.size;
        if (count <= 0) {
            throw new ArithmeticException("no strokes");
        }
        return (float) text.signs.size / (float) count;
    }

    public double delay() throws ArithmeticException {
        int last = script.ticks.size - 1;
        if (last < 1) {
            throw new ArithmeticException("fewer than two strokes");
        }
        int passed = script.ticks.get(last) - script.ticks.get(0);
        return (double) passed / (double) last;
    }

    // The whole

    public long checksum() {
        long sum = 7;
        for (int i = 0; i < text.signs.size; i++) {
            int sign = text.signs.get(i);
            sum = 31 * sum + (sign == '|' ? 10 : sign);
        }
        for (int i = 0; i < script.counts.size; i++) {
            sum = 31 * sum + script.counts.get(i);
        }
        return sum;
    }

    public boolean isSound() {
        braille.refresh(text.signs);
        return isWrittenAgain() && braille.readsBack(text.signs) && areTimesKept() && outlets.areCurrent();
    }

    /** Translates stroke by stroke into a second script, and writes it. */
    private boolean isWrittenAgain() {
        secondScript.clear();
        for (int i = 0; i < script.strokes.size; i++) {
            secondScript.keep(script.strokes.get(i), script.ticks.get(i));
            secondScript.translateStroke(i, dictionary);
        }
        secondScript.chooseContents();
        secondText.writeAll(secondScript, joins);
        return text.signs.isSame(secondText.signs);
    }

    private boolean areTimesKept() {
        for (int i = 0; i < text.signs.size; i++) {
            if (script.ticks.indexOf(script.tickOf(text.writers.get(i))) < 0) {
                return false;
            }
        }
        return true;
    }

    /** Whatever the text depends on may have changed: it is always what the strokes that are left make. */
    private void renew() {
        script.translate(dictionary);
        text.writeAll(script, joins);
        layout.isFresh = false;
        braille.isFresh = false;
    }

    private void clearTyped() {
        typedStrokes.cut(0);
        typedSigns.cut(0);
    }

    private boolean isWritten(int index) {
        return index >= 0 && index < text.signs.size;
    }

    private boolean isTranslation(int index) {
        return index >= 0 && index < script.firsts.size;
    }

    private boolean isSink(int index) {
        return index >= 0 && index < outlets.delays.size;
    }

    private static boolean isLayer(int layer) {
        return layer >= 0 && layer < LAYERS;
    }

    private static boolean isKeys(int keys) {
        return keys >= 1 && keys <= MOST_KEYS;
    }

    private static boolean isSmall(int sign) {
        return sign >= 'a' && sign <= 'z';
    }

    private static boolean isCapital(int sign) {
        return sign >= 'A' && sign <= 'Z';
    }

    private static boolean isLetter(int sign) {
        return sign >= 'a' && sign <= 'z' || sign >= 'A' && sign <= 'Z';
    }

    private static int smallOf(int sign) {
        return sign >= 'A' && sign <= 'Z' ? sign - 'A' + 'a' : sign;
    }

    private static int capitalOf(int sign) {
        return sign >= 'a' && sign <= 'z' ? sign - 'a' + 'A' : sign;
    }

    private static boolean isVowel(int sign) {
        return sign == 'a' || sign == 'e' || sign == 'i' || sign == 'o' || sign == 'u';
    }

    private static boolean areLetters(Row signs) {
        for (int i = 0; i < signs.size; i++) {
            if (!isSmall(signs.get(i))) {
                return false;
            }
        }
        return true;
    }

    /** A row of numbers in a room made once; what would not fit is left out. */
    private static final class Row {
        final int[] items;
        int size;

        Row(int room) {
            items = new int[room < 0 ? 0 : room];
            size = 0;
        }

        int get(int index) {
            return index >= 0 && index < size && index < items.length ? items[index] : 0;
        }

        void set(int index, int item) {
            if (index >= 0 && index < size && index < items.length) {
                items[index] = item;
            }
        }

        void push(int item) {
            if (size >= 0 && size < items.length) {
                items[size] = item;
                size++;
            }
        }

        /** Shortens the row to its first items. */
        void cut(int rest) {
            if (rest >= 0 && rest < size) {
                size = rest;
            }
        }

        /** Takes the items from one index up to another one out. */
        void drop(int from, int to) {
            if (from < 0 || to < from || to > size) {
                return;
            }
            for (int i = to; i < size; i++) {
                set(from + i - to, get(i));
            }
            cut(size - (to - from));
        }

        void takeFrom(Row other) {
            size = 0;
            for (int i = 0; i < other.size; i++) {
                push(other.get(i));
            }
        }

        int indexOf(int item) {
            for (int i = 0; i < size && i < items.length; i++) {
                if (items[i] == item) {
                    return i;
                }
            }
            return -1;
        }

        int commonWith(Row other) {
            int common = 0;
            while (common < size && common < other.size && common < items.length && common < other.items.length
                    && items[common] == other.items[common]) {
                common++;
            }
            return common;
        }

        boolean isSame(Row other) {
            return size == other.size && isPartOf(other, 0);
        }

        /** Answers whether the other row has all items of this one, from that index on. */
        boolean isPartOf(Row other, int from) {
            if (from < 0 || other.size - from < size) {
                return false;
            }
            for (int i = 0; i < size; i++) {
                int there = from + i;
                if (i < items.length && there >= 0 && there < other.items.length && items[i] != other.items[there]) {
                    return false;
                }
            }
            return true;
        }
    }

    private static final class Keyboard {
        char kind;
        int held;
        int pressed;
        boolean isNewDown;

        Keyboard() {
            kind = 'l';
        }

        boolean isHeld(int key) {
            return (held >> key & 1) == 1;
        }

        void press(int key) {
            held |= 1 << key;
            pressed |= 1 << key;
            isNewDown = true;
        }

        /** The stroke that is made when this key comes up, 0 for none. */
        int madeByRelease(int key) {
            if (kind == 'f') {
                return isNewDown ? held : 0;
            }
            return held == 1 << key ? pressed : 0;
        }

        void release(int key) {
            held &= ~(1 << key);
            if (held == 0) {
                pressed = 0;
            }
        }
    }

    private static final class Entry {
        final int layer;
        final Row outline;
        final Row content;
        final Row letters;
        final Row[] alternatives;

        Entry(int layer) {
            this.layer = layer;
            outline = new Row(MOST_OUTLINE);
            content = new Row(MOST_CONTENT);
            letters = new Row(MOST_ALTERNATIVES);
            alternatives = new Row[MOST_ALTERNATIVES];
        }

        void addAlternative(int letter, Row signs) {
            int place = letters.size;
            if (place >= 0 && place < alternatives.length) {
                Row kept = new Row(MOST_CONTENT);
                kept.takeFrom(signs);
                alternatives[place] = kept;
                letters.push(letter);
            }
        }

        /** The content by the number of the choice: 0 for the entry's own. */
        Row contentBy(int choice) {
            int place = choice - 1;
            if (place < 0 || place >= letters.size || place >= alternatives.length) {
                return content;
            }
            Row other = alternatives[place];
            return other == null ? content : other;
        }

        boolean isUndoing() {
            return content.size == 1 && content.get(0) == '=';
        }

        int firstLetter() {
            for (int i = 0; i < content.size; i++) {
                if (isSmall(content.get(i))) {
                    return content.get(i);
                }
            }
            return 0;
        }
    }

    /** The entries of all layers in one row; each knows its layer. */
    private static final class Dictionary {
        final Entry[] entries;
        final Row sizes;
        int size;
        int layersOn;

        Dictionary() {
            entries = new Entry[LAYERS * MOST_ENTRIES];
            sizes = new Row(LAYERS);
            for (int i = 0; i < LAYERS; i++) {
                sizes.push(0);
            }
            layersOn = (1 << LAYERS) - 1;
        }

        boolean isOn(int layer) {
            return (layersOn >> layer & 1) == 1;
        }

        void setOn(int layer, boolean isOn) {
            layersOn = isOn ? layersOn | 1 << layer : layersOn & ~(1 << layer);
        }

        Entry get(int place) {
            return place >= 0 && place < size && place < entries.length ? entries[place] : null;
        }

        int placeOf(int layer, Row outline) {
            for (int i = 0; i < size; i++) {
                Entry entry = get(i);
                if (entry != null && entry.layer == layer && entry.outline.isSame(outline)) {
                    return i;
                }
            }
            return -1;
        }

        void add(Entry entry) {
            if (size >= 0 && size < entries.length) {
                entries[size] = entry;
                size++;
                sizes.set(entry.layer, sizes.get(entry.layer) + 1);
            }
        }

        void replace(int place, Entry entry) {
            if (place >= 0 && place < size && place < entries.length) {
                entries[place] = entry;
            }
        }

        void takeOut(int place) {
            Entry gone = get(place);
            if (gone == null) {
                return;
            }
            replace(place, get(size - 1));
            size--;
            sizes.set(gone.layer, sizes.get(gone.layer) - 1);
        }

        /** The entry for these strokes in the greatest layer that is on, null without any. */
        Entry bestFor(Row strokes, int from, int count) {
            Entry best = null;
            for (int i = 0; i < size && i < entries.length; i++) {
                Entry entry = entries[i];
                if (entry != null && entry.outline.size == count && (best == null || entry.layer > best.layer)
                        && isOn(entry.layer) && entry.outline.isPartOf(strokes, from)) {
                    best = entry;
                }
            }
            return best;
        }

        /** The one-stroke outline with fewest keys unlike, of several the least one; 0 without any. */
        int nearestTo(int stroke) {
            int nearest = 0;
            int fewest = KEYS + 1;
            for (int i = 0; i < size; i++) {
                Entry entry = get(i);
                if (entry != null && entry.outline.size == 1 && isOn(entry.layer)) {
                    int outline = entry.outline.get(0);
                    int unlike = Integer.bitCount(outline ^ stroke);
                    if (unlike < fewest || unlike == fewest && outline < nearest) {
                        nearest = outline;
                        fewest = unlike;
                    }
                }
            }
            return nearest;
        }
    }

    /** The strokes that are kept, and what they are translated to. */
    private static final class Transcript {
        final Row strokes;
        final Row ticks;
        final Row firsts;
        final Row counts;
        final Row choices;
        final Entry[] found;
        final Row unknown;

        Transcript() {
            strokes = new Row(MOST_STROKES);
            ticks = new Row(MOST_STROKES);
            firsts = new Row(MOST_STROKES);
            counts = new Row(MOST_STROKES);
            choices = new Row(MOST_STROKES);
            found = new Entry[MOST_STROKES];
            unknown = new Row(2);
            unknown.push('?');
            unknown.push('?');
        }

        void clear() {
            strokes.cut(0);
            ticks.cut(0);
            cutTranslations(0);
        }

        void keep(int stroke, int tick) {
            strokes.push(stroke);
            ticks.push(tick);
        }

        void drop(int from, int to) {
            strokes.drop(from, to);
            ticks.drop(from, to);
        }

        void cutTranslations(int rest) {
            firsts.cut(rest);
            counts.cut(rest);
            choices.cut(rest);
        }

        Entry entryOf(int translation) {
            return translation >= 0 && translation < firsts.size && translation < found.length
                    ? found[translation] : null;
        }

        Row contentOf(int translation) {
            Entry entry = entryOf(translation);
            return entry == null ? unknown : entry.contentBy(choices.get(translation));
        }

        int tickOf(int translation) {
            return ticks.get(firsts.get(translation) + counts.get(translation) - 1);
        }

        /** Each round but the last one undoes strokes, so there are no more of them than strokes. */
        void translate(Dictionary dictionary) {
            boolean isDone = false;
            for (int round = 0; round <= MOST_STROKES && !isDone; round++) {
                isDone = translateUntilUndone(dictionary);
            }
            chooseContents();
        }

        /** Answers whether all strokes were translated without one that undoes. */
        private boolean translateUntilUndone(Dictionary dictionary) {
            cutTranslations(0);
            for (int i = 0; i < strokes.size; i++) {
                translateStroke(i, dictionary);
                int last = firsts.size - 1;
                Entry entry = entryOf(last);
                if (entry != null && entry.isUndoing()) {
                    drop(Math.max(firsts.get(last) - 1, 0), i + 1);
                    return false;
                }
            }
            return true;
        }

        void translateStroke(int index, Dictionary dictionary) {
            Entry longest = null;
            int first = index;
            int rest = firsts.size;
            for (int back = 0; back < MOST_OUTLINE && back <= firsts.size; back++) {
                int from = back == 0 ? index : firsts.get(firsts.size - back);
                int count = index - from + 1;
                Entry entry = count > MOST_OUTLINE ? null : dictionary.bestFor(strokes, from, count);
                if (entry != null) {
                    longest = entry;
                    first = from;
                    rest = firsts.size - back;
                }
            }
            cutTranslations(rest);
            if (rest >= 0 && rest < found.length) {
                found[rest] = longest;
                firsts.push(first);
                counts.push(index - first + 1);
                choices.push(0);
            }
        }

        void chooseContents() {
            for (int i = 0; i < firsts.size; i++) {
                Entry entry = entryOf(i);
                Entry next = entryOf(i + 1);
                int place = entry == null || next == null ? -1 : entry.letters.indexOf(next.firstLetter());
                choices.set(i, place + 1);
            }
        }

        int countMisses() {
            int count = 0;
            for (int i = 0; i < firsts.size; i++) {
                if (entryOf(i) == null && !isMissAhead(i)) {
                    count++;
                }
            }
            return count;
        }

        private boolean isMissAhead(int translation) {
            int stroke = strokes.get(firsts.get(translation));
            for (int i = 0; i < translation; i++) {
                if (entryOf(i) == null && strokes.get(firsts.get(i)) == stroke) {
                    return true;
                }
            }
            return false;
        }

        int greatestSaving() {
            int greatest = 0;
            for (int i = 0; i < firsts.size; i++) {
                if (entryOf(i) != null) {
                    greatest = Math.max(greatest, savingOf(contentOf(i)));
                }
            }
            return greatest;
        }

        private int savingOf(Row content) {
            int times = 0;
            int last = 0;
            for (int i = 0; i < firsts.size; i++) {
                if (entryOf(i) != null && contentOf(i).isSame(content)) {
                    times++;
                    last = i;
                }
            }
            return times * (counts.get(last) - 1);
        }
    }

    /** The rules by which suffixes are joined, and the list of words that decides between them. */
    private static final class Joins {
        final Row rules;
        final Row[] list;
        final Row joined;
        int size;

        Joins() {
            rules = new Row(RULES.length());
            list = new Row[MOST_WORDS];
            joined = new Row(MOST_SIGNS);
        }

        boolean isListed(Row letters) {
            for (int i = 0; i < size && i < list.length; i++) {
                Row word = list[i];
                if (word != null && word.size == letters.size && word.isPartOf(letters, 0)) {
                    return true;
                }
            }
            return false;
        }

        void addWord(Row letters) {
            if (!isListed(letters) && size >= 0 && size < list.length) {
                Row word = new Row(MOST_CONTENT);
                word.takeFrom(letters);
                list[size] = word;
                size++;
            }
        }

        /** The rule by which the suffix is joined to the word that begins there and ends the signs, 0 for none. */
        int choose(Row signs, int begin, Row suffix) {
            int first = 0;
            for (int i = 0; i < rules.size; i++) {
                int rule = rules.get(i);
                if (holds(rule, signs, begin, suffix)) {
                    join(rule, signs, begin, suffix);
                    if (isListed(joined)) {
                        return rule;
                    }
                    first = first == 0 ? rule : first;
                }
            }
            join(0, signs, begin, suffix);
            return isListed(joined) ? 0 : first;
        }

        private boolean holds(int rule, Row signs, int begin, Row suffix) {
            int end = signs.size - 1;
            int last = smallOf(signs.get(end));
            int second = end - 1 >= begin ? smallOf(signs.get(end - 1)) : 0;
            int third = end - 2 >= begin ? smallOf(signs.get(end - 2)) : 0;
            int next = suffix.get(0);
            if (rule == 'e') {
                return last == 'e' && isVowel(next);
            }
            if (rule == 'y') {
                return last == 'y' && second != 0 && !isVowel(second) && next != 'i';
            }
            if (rule == 'd') {
                return !isVowel(last) && last != 'w' && last != 'x' && last != 'y'
                        && isVowel(second) && third != 0 && !isVowel(third) && isVowel(next);
            }
            boolean isHissing = last == 's' || last == 'x' || last == 'z'
                    || last == 'h' && (second == 'c' || second == 's');
            return suffix.size == 1 && next == 's' && isHissing;
        }

        /** Puts together, in small letters, what the rule would make. */
        private void join(int rule, Row signs, int begin, Row suffix) {
            joined.cut(0);
            for (int i = begin; i < signs.size; i++) {
                joined.push(smallOf(signs.get(i)));
            }
            int between = letterBetween(rule, joined.get(joined.size - 1));
            if (dropsLast(rule)) {
                joined.cut(joined.size - 1);
            }
            if (between != 0) {
                joined.push(between);
            }
            for (int i = 0; i < suffix.size; i++) {
                joined.push(suffix.get(i));
            }
        }

        static boolean dropsLast(int rule) {
            return rule == 'e' || rule == 'y';
        }

        /** The letter that the rule puts between a word with this last letter and the suffix, 0 for none. */
        static int letterBetween(int rule, int last) {
            if (rule == 'y') {
                return 'i';
            }
            if (rule == 's') {
                return 'e';
            }
            return rule == 'd' ? last : 0;
        }
    }

    /** What is written, and by which translation each sign. */
    private static final class Text {
        final Row signs;
        final Row writers;
        final Row suffix;
        int writer;
        boolean isCapitalDue;
        boolean isBlankDue;

        Text() {
            signs = new Row(MOST_SIGNS);
            writers = new Row(MOST_SIGNS);
            suffix = new Row(MOST_CONTENT);
        }

        void writeAll(Transcript script, Joins joins) {
            cutTo(0);
            isCapitalDue = false;
            boolean isGlued = false;
            for (int i = 0; i < script.firsts.size; i++) {
                Row content = script.contentOf(i);
                int begin = content.get(0);
                writer = i;
                isBlankDue = !isGlued && begin != '^' && begin != '.' && begin != ',';
                suffix.cut(0);
                if (begin == '^') {
                    takeSuffix(content);
                    writeSuffix(joins);
                }
                writeFrom(content, begin == '^' ? 1 + suffix.size : 0);
                isGlued = content.get(content.size - 1) == '^';
            }
        }

        /** '^' and '=' have no case here: where they come to this they write nothing. */
        private void writeFrom(Row content, int from) {
            for (int i = from; i < content.size; i++) {
                int sign = content.get(i);
                if (isSmall(sign)) {
                    write(shaped(sign));
                } else if (sign == '.' || sign == ',' || sign == '|' || sign == '?') {
                    write(sign);
                    isCapitalDue = isCapitalDue || sign == '.';
                } else if (sign == '-') {
                    isCapitalDue = true;
                } else if (sign == '<') {
                    raiseLastWord();
                } else if (sign == '#') {
                    takeLastWord();
                }
            }
        }

        /** The letter as it is to be written: the capital that was due is given with it. */
        private int shaped(int letter) {
            int sign = isCapitalDue ? capitalOf(letter) : letter;
            isCapitalDue = false;
            return sign;
        }

        private void write(int sign) {
            boolean isAtBegin = signs.size == 0 || signs.get(signs.size - 1) == '|';
            if (isBlankDue && sign != '|' && !isAtBegin) {
                add(' ');
            }
            isBlankDue = false;
            add(sign);
        }

        private void add(int sign) {
            signs.push(sign);
            writers.push(writer);
        }

        private void cutTo(int rest) {
            signs.cut(rest);
            writers.cut(rest);
        }

        private void raiseLastWord() {
            int begin = beginOfLastWord();
            if (begin >= 0 && isSmall(signs.get(begin))) {
                signs.set(begin, capitalOf(signs.get(begin)));
                writers.set(begin, writer);
            }
        }

        private void takeLastWord() {
            int begin = beginOfLastWord();
            if (begin >= 0) {
                cutTo(begin > 0 && signs.get(begin - 1) == ' ' ? begin - 1 : begin);
            }
        }

        /** The index at which the last word begins, -1 without a word. */
        private int beginOfLastWord() {
            int begin = signs.size - 1;
            while (begin >= 0 && !isLetter(signs.get(begin))) {
                begin--;
            }
            while (begin > 0 && isLetter(signs.get(begin - 1))) {
                begin--;
            }
            return begin;
        }

        private void takeSuffix(Row content) {
            for (int i = 1; i < content.size && isSmall(content.get(i)); i++) {
                suffix.push(content.get(i));
            }
        }

        private void writeSuffix(Joins joins) {
            int last = signs.get(signs.size - 1);
            if (suffix.size > 0 && isLetter(last)) {
                int rule = joins.choose(signs, beginOfLastWord(), suffix);
                int between = Joins.letterBetween(rule, smallOf(last));
                if (Joins.dropsLast(rule)) {
                    cutTo(signs.size - 1);
                }
                if (between != 0) {
                    add(between);
                }
            }
            for (int i = 0; i < suffix.size; i++) {
                write(shaped(suffix.get(i)));
            }
        }

        int countWords() {
            int count = 0;
            for (int i = 0; i < signs.size; i++) {
                if (isLetter(signs.get(i)) && !isLetter(signs.get(i - 1))) {
                    count++;
                }
            }
            return count;
        }
    }

    /** What was kept for the last ticks, and the sinks that show it. */
    private static final class Sinks {
        /** At the end of a tick the longest delay needs the text of ten ticks ago once more, to compare with it. */
        private static final int KEPT = MOST_DELAY + 2;

        final Row[] kept;
        final Row nothing;
        final Row delays;
        final Row begins;
        final Row counts;
        int ended;

        Sinks() {
            kept = new Row[KEPT];
            for (int i = 0; i < KEPT && i < kept.length; i++) {
                kept[i] = new Row(MOST_SIGNS);
            }
            nothing = new Row(0);
            delays = new Row(MOST_SINKS);
            begins = new Row(MOST_SINKS);
            counts = new Row(MOST_SINKS);
        }

        void add(int delay) {
            delays.push(delay);
            begins.push(ended);
            counts.push(0);
        }

        Row keptFor(int tick) {
            int place = tick % KEPT;
            Row found = tick >= 0 && place >= 0 && place < kept.length ? kept[place] : null;
            return found == null ? nothing : found;
        }

        Row shownBy(int sink) {
            return ended > begins.get(sink) ? keptFor(ended - 1 - delays.get(sink)) : nothing;
        }

        void endTick(Row signs) {
            keptFor(ended).takeFrom(signs);
            for (int i = 0; i < delays.size; i++) {
                Row before = shownBy(i);
                Row then = keptFor(ended - delays.get(i));
                counts.set(i, counts.get(i) + before.size - before.commonWith(then));
            }
            ended++;
        }

        /** A sink that no tick has ended for has nothing to show yet. */
        boolean areCurrent() {
            for (int i = 0; i < delays.size; i++) {
                boolean isDue = delays.get(i) == 0 && ended > begins.get(i);
                if (isDue && !shownBy(i).isSame(keptFor(ended - 1))) {
                    return false;
                }
            }
            return true;
        }
    }

    /** The line of each sign, found anew when it is asked for after a change. */
    private static final class Layout {
        final Row places;
        int width;
        int linesOfPage;
        boolean isFresh;
        private int line;
        private int used;

        Layout() {
            places = new Row(MOST_SIGNS);
            width = 40;
            linesOfPage = 10;
        }

        int countLines() {
            return places.size == 0 ? 0 : places.get(places.size - 1) + 1;
        }

        int pageAt(int index) {
            return linesOfPage > 0 ? places.get(index) / linesOfPage : 0;
        }

        void refresh(Row signs) {
            if (isFresh) {
                return;
            }
            isFresh = true;
            places.cut(0);
            line = 0;
            used = 0;
            for (int i = 0; i < signs.size; i++) {
                int sign = signs.get(i);
                if (isGap(sign)) {
                    placeGap(sign);
                } else {
                    if (i > 0 && signs.get(i - 1) == ' ') {
                        breakUnlessFits(pieceLength(signs, i));
                    }
                    placeSign();
                }
            }
        }

        private static boolean isGap(int sign) {
            return sign == ' ' || sign == '|';
        }

        private void placeGap(int sign) {
            places.push(line);
            if (sign == '|') {
                line++;
                used = 0;
            }
        }

        private static int pieceLength(Row signs, int from) {
            int end = from;
            while (end < signs.size && !isGap(signs.get(end))) {
                end++;
            }
            return end - from;
        }

        private void breakUnlessFits(int length) {
            if (used + 1 + length <= width) {
                used++;
            } else {
                line++;
                used = 0;
            }
        }

        private void placeSign() {
            if (used >= width) {
                line++;
                used = 0;
            }
            places.push(line);
            used++;
        }
    }

    /** The contractions, and the cells of the text, made anew when they are asked for after a change. */
    private static final class Braille {
        private static final int CAPITAL = 64;
        private static final int LINE_END = 66;
        private static final int FULL_STOP = 67;
        private static final int COMMA = 68;
        private static final int QUESTION = 69;

        final Row numbers;
        final Row[] rows;
        final Row cells;
        final Row back;
        boolean isFresh;

        Braille() {
            numbers = new Row(MOST_CONTRACTIONS);
            rows = new Row[MOST_CONTRACTIONS];
            cells = new Row(2 * MOST_SIGNS);
            back = new Row(MOST_SIGNS);
        }

        boolean isTold(int cell, Row letters) {
            for (int i = 0; i < numbers.size; i++) {
                if (numbers.get(i) == cell || lettersOf(i).isSame(letters)) {
                    return true;
                }
            }
            return false;
        }

        void add(int cell, Row letters) {
            int place = numbers.size;
            if (place >= 0 && place < rows.length) {
                Row row = new Row(MOST_CONTENT);
                row.takeFrom(letters);
                rows[place] = row;
                numbers.push(cell);
                isFresh = false;
            }
        }

        /** The letters of a contraction; without any such, the row of its numbers stands in, which no letters match. */
        private Row lettersOf(int place) {
            Row found = place >= 0 && place < numbers.size && place < rows.length ? rows[place] : null;
            return found == null ? numbers : found;
        }

        void refresh(Row signs) {
            if (isFresh) {
                return;
            }
            isFresh = true;
            cells.cut(0);
            int next = 0;
            while (next < signs.size) {
                int sign = signs.get(next);
                if (isCapital(sign)) {
                    cells.push(CAPITAL);
                }
                int place = isLetter(sign) ? longestAt(signs, next) : -1;
                cells.push(place < 0 ? cellOf(sign) : numbers.get(place));
                next += place < 0 ? 1 : Math.max(1, lettersOf(place).size);
            }
        }

        private int longestAt(Row signs, int from) {
            int longest = -1;
            int length = 0;
            for (int i = 0; i < numbers.size; i++) {
                Row letters = lettersOf(i);
                if (letters.size > length && beginsAt(letters, signs, from)) {
                    longest = i;
                    length = letters.size;
                }
            }
            return longest;
        }

        /** Behind the first letter a capital is unlike: there it could not be read back. */
        private static boolean beginsAt(Row letters, Row signs, int from) {
            for (int i = 0; i < letters.size; i++) {
                int sign = signs.get(from + i);
                if (letters.get(i) != (i == 0 ? smallOf(sign) : sign)) {
                    return false;
                }
            }
            return true;
        }

        private static int cellOf(int sign) {
            if (sign == '|') {
                return LINE_END;
            }
            if (sign == '.') {
                return FULL_STOP;
            }
            if (sign == ',') {
                return COMMA;
            }
            if (sign == '?') {
                return QUESTION;
            }
            return isLetter(sign) ? smallOf(sign) - 'a' + 1 : 0;
        }

        boolean readsBack(Row signs) {
            back.cut(0);
            boolean isCapitalDue = false;
            for (int i = 0; i < cells.size; i++) {
                int begin = back.size;
                readCell(cells.get(i));
                if (isCapitalDue) {
                    back.set(begin, capitalOf(back.get(begin)));
                }
                isCapitalDue = cells.get(i) == CAPITAL;
            }
            return back.isSame(signs);
        }

        private void readCell(int cell) {
            if (cell > 26 && cell < CAPITAL) {
                Row letters = lettersOf(numbers.indexOf(cell));
                for (int i = 0; i < letters.size; i++) {
                    back.push(letters.get(i));
                }
            } else if (cell != CAPITAL) {
                back.push(signOf(cell));
            }
        }

        private static int signOf(int cell) {
            if (cell == LINE_END) {
                return '|';
            }
            if (cell == FULL_STOP) {
                return '.';
            }
            if (cell == COMMA) {
                return ',';
            }
            if (cell == QUESTION) {
                return '?';
            }
            return cell == 0 ? ' ' : cell - 1 + 'a';
        }
    }
}
