import java.util.Arrays;
import java.util.NoSuchElementException;

/**
 * A house of collectors: a heap in a row of words, cleaned in one of seven ways that a text tells.
 *
 * <p>The outer class is the face: it holds THE TAPE and the KINDS, tests what a call names, and hands the work to the
 * store (what is in the heap) and to the present collector (where it is, and how it is cleaned).
 */
public final class CollectorHouse {
    private static final int NOTHING = -1;

    private static final int BLANK = 32;
    private static final int MOST_BYTES = 100;
    private static final int MOST_DIGITS = 5;

    private static final int MOST_KINDS = 16;
    private static final int MOST_KIND_WORDS = 8;
    private static final int MOST_ROW_WORDS = 60;
    private static final int ROW_OF_REFERENCES = 16;
    private static final int ROW_OF_INTS = 17;
    private static final long ALL_WORDS = -1L;
    private static final long NO_WORDS = 0L;

    private static final int SLOTS = 16;
    private static final int MOST_STEPS = 1000;

    // A house lives for 512 calls, and no call makes more than one object.
    private static final int MOST_OBJECTS = 512;

    private static final int LEAST_ROOM = 16;
    private static final int MOST_ROOM = 1500;
    // By ages: OLD and two halves of YOUNG.
    private static final int MOST_WORDS = 3 * MOST_ROOM;
    private static final int MOST_AGE = 7;
    private static final int LEAST_CARD = 4;
    private static final int MOST_CARD = 64;
    private static final int MOST_CARDS = MOST_ROOM / LEAST_CARD;
    private static final int MOST_RATE = 50;
    private static final int LEAST_REGION = 16;
    private static final int MOST_REGION = 256;
    private static final int LEAST_REGIONS = 4;
    private static final int MOST_REGIONS = MOST_ROOM / LEAST_REGION;
    private static final int PERCENT = 100;

    private static final int SWEEP = 0;
    private static final int SLIDE = 1;
    private static final int HALVES = 2;
    private static final int AGES = 3;
    private static final int COUNTS = 4;
    private static final int STEPS = 5;
    private static final int REGIONS = 6;
    private static final int MOST_PARTS = 4;

    private static final int FIRST = 0;
    private static final int NEXT = 1;
    private static final int BEST = 2;
    private static final int WORST = 3;

    private static final int PICTURE = 0;
    private static final int NEWS = 1;

    private static final int WHITE = 0;
    private static final int GREY = 1;
    private static final int BLACK = 2;

    private final byte[] tape = new byte[MOST_BYTES];
    private int tapeLength;
    private int tokenStart;
    private int tokenEnd;
    private final int[] told = new int[MOST_PARTS];

    private final int[] kindWords = new int[MOST_KINDS];
    private final int[] kindReferences = new int[MOST_KINDS];
    private int kinds;

    private final Store store;
    private final Walk walk;
    private final Collector[] collectors;
    private Collector present;

    public CollectorHouse() {
        store = new Store();
        walk = new Walk(store);
        collectors = new Collector[] {
            new Sweep(store, walk), new Slide(store, walk), new Halves(store, walk), new Ages(store, walk),
            new Counts(store, walk), new Steps(store, walk), new Regions(store, walk)
        };
    }

    public int feed(int a, int b, int c, int d, int e) throws IndexOutOfBoundsException {
        if (tapeLength + 20 > MOST_BYTES) {
            throw new IndexOutOfBoundsException();
        }
        addBytes(a);
        addBytes(b);
        addBytes(c);
        addBytes(d);
        addBytes(e);
        return tapeLength;
    }

    public int end(int n) throws IllegalArgumentException {
        if (n < 0 || n > tapeLength) {
            throw new IllegalArgumentException();
        }
        tapeLength = n;
        return n;
    }

    public int kind(int words, int references) throws IllegalArgumentException, IllegalStateException {
        if (words < 0 || words > MOST_KIND_WORDS || references < 0 || references >= 1 << words) {
            throw new IllegalArgumentException();
        }
        if (kinds >= MOST_KINDS) {
            throw new IllegalStateException();
        }
        kindWords[kinds] = words;
        kindReferences[kinds] = references;
        kinds++;
        return kinds - 1;
    }

    public int heap() {
        int policy = readPolicy();
        tapeLength = 0;
        if (policy < 0 || policy >= collectors.length) {
            return -1 - tokenStart;
        }
        store.forgetAll();
        present = collectors[policy];
        present.open(told);
        return present.total();
    }

    public int make(int kind, int root) throws IllegalArgumentException, IllegalStateException {
        if (kind < 0 || kind >= kinds || !isSlot(root)) {
            throw new IllegalArgumentException();
        }
        return addObject(kind, kindWords[kind], kindReferences[kind], root);
    }

    public int row(boolean references, int n, int root) throws IllegalArgumentException, IllegalStateException {
        if (n < 0 || n > MOST_ROW_WORDS || !isSlot(root)) {
            throw new IllegalArgumentException();
        }
        return references
            ? addObject(ROW_OF_REFERENCES, n, ALL_WORDS, root)
            : addObject(ROW_OF_INTS, n, NO_WORDS, root);
    }

    public int put(int object, int i, int v)
            throws IllegalStateException, NoSuchElementException, IndexOutOfBoundsException, ClassCastException {
        needCollector();
        Thing thing = needReached(object);
        if (!thing.hasWord(i)) {
            throw new IndexOutOfBoundsException();
        }
        if (thing.isReference(i)) {
            throw new ClassCastException();
        }
        return store.changeInt(thing, i, v);
    }

    public int link(int object, int i, int to)
            throws IllegalStateException, NoSuchElementException, IndexOutOfBoundsException, ClassCastException {
        Collector collector = needCollector();
        Thing thing = needReached(object);
        Thing has = needReachedOrNothing(to);
        if (!thing.hasWord(i)) {
            throw new IndexOutOfBoundsException();
        }
        if (!thing.isReference(i)) {
            throw new ClassCastException();
        }
        Thing had = store.changeReference(thing, i, has);
        collector.noteReference(thing, i, has);
        collector.noteChange(had, has);
        collector.noteFewer(had);
        return numberOf(had);
    }

    public int get(int object, int i)
            throws IllegalStateException, NoSuchElementException, IndexOutOfBoundsException {
        needCollector();
        Thing thing = needReached(object);
        if (!thing.hasWord(i)) {
            throw new IndexOutOfBoundsException();
        }
        return store.wordOf(thing, i);
    }

    public int root(int i, int object)
            throws IllegalArgumentException, IllegalStateException, NoSuchElementException {
        if (!isSlot(i)) {
            throw new IllegalArgumentException();
        }
        Collector collector = needCollector();
        Thing has = needReachedOrNothing(object);
        return numberOf(changeRoot(collector, i, has));
    }

    public int weak(int i, int object)
            throws IllegalArgumentException, IllegalStateException, NoSuchElementException {
        if (!isSlot(i)) {
            throw new IllegalArgumentException();
        }
        needCollector();
        Thing has = needReachedOrNothing(object);
        int had = store.weaks[i];
        store.weaks[i] = numberOf(has);
        return had;
    }

    public int strong(int i, int root) throws IllegalArgumentException, IllegalStateException {
        if (!isSlot(i) || !isSlot(root)) {
            throw new IllegalArgumentException();
        }
        Collector collector = needCollector();
        Thing thing = store.thingAt(store.weaks[i]);
        if (thing == null) {
            return NOTHING;
        }
        changeRoot(collector, root, thing);
        collector.noteStrong(thing);
        return thing.number;
    }

    public int hold(int object, boolean on)
            throws IllegalStateException, NoSuchElementException, UnsupportedOperationException {
        Collector collector = needCollector();
        Thing thing = needReached(object);
        if (!collector.canHold(thing) || !on && thing.holds == 0) {
            throw new UnsupportedOperationException();
        }
        store.changeHolds(thing, on ? 1 : -1);
        collector.noteFewer(thing);
        return thing.holds;
    }

    public int wish(int object) throws IllegalStateException, NoSuchElementException {
        needCollector();
        Thing thing = needReached(object);
        int news = thing.wished ? 0 : 1;
        thing.wished = true;
        return news;
    }

    public int granted(int root) throws IllegalArgumentException, IllegalStateException {
        if (!isSlot(root)) {
            throw new IllegalArgumentException();
        }
        Collector collector = needCollector();
        Thing thing = store.takeWish();
        if (thing == null) {
            return NOTHING;
        }
        changeRoot(collector, root, thing);
        return thing.number;
    }

    public int clean() throws IllegalStateException {
        return needCollector().cleanAll();
    }

    public int step(int n) throws IllegalArgumentException, IllegalStateException, UnsupportedOperationException {
        if (n < 0 || n > MOST_STEPS) {
            throw new IllegalArgumentException();
        }
        if (needCollector() instanceof Steps steps) {
            return steps.goOn(n);
        }
        throw new UnsupportedOperationException();
    }

    public int about(int object, int what)
            throws IllegalArgumentException, IllegalStateException, NoSuchElementException {
        if (what < 0 || what > 7) {
            throw new IllegalArgumentException();
        }
        Collector collector = needCollector();
        Thing thing = needReached(object);
        switch (what) {
            case 0: return thing.place;
            case 1: return thing.size;
            case 2: return thing.kind;
            case 3: return thing.age;
            case 4: return collector.countOf(thing);
            case 5: return collector.colourOf(thing);
            case 6: return thing.holds;
            default: return thing.wished ? 1 : 0;
        }
    }

    public int block(int i, int part)
            throws IllegalArgumentException, IllegalStateException, UnsupportedOperationException,
            IndexOutOfBoundsException {
        if (part < 0 || part > 1) {
            throw new IllegalArgumentException();
        }
        if (needCollector() instanceof Sweep sweep) {
            int place = sweep.blockPlace(i);
            if (place == NOTHING) {
                throw new IndexOutOfBoundsException();
            }
            return part == 0 ? place : sweep.freeEnd(place) - place;
        }
        throw new UnsupportedOperationException();
    }

    public int count(int what) throws IllegalArgumentException, IllegalStateException {
        if (what < 0 || what > 13) {
            throw new IllegalArgumentException();
        }
        if (what == 0) {
            return tapeLength;
        }
        if (what == 1) {
            return kinds;
        }
        Collector collector = needCollector();
        switch (what) {
            case 2: return store.live;
            case 3: return store.used;
            case 4: return store.given;
            case 5: return store.cleanings;
            case 6: return store.moved;
            case 7: return store.freed;
            case 8: return store.looked;
            case 9: return store.wishCount;
            case 10: return collector.specials();
            case 11: return collector.topPlace();
            case 12: return collector.isMarking() ? 1 : 0;
            default: return collector.oldTopOrRegion();
        }
    }

    private void addBytes(int value) {
        for (int shift = 24; shift >= 0 && tapeLength < MOST_BYTES; shift -= 8) {
            tape[tapeLength] = (byte) (value >>> shift);
            tapeLength++;
        }
    }

    /** Answers the policy, its numbers in told; NOTHING if it is BROKEN, at tokenStart (the length, if it lacks). */
    private int readPolicy() {
        tokenEnd = 0;
        nextToken();
        int policy = policyToken();
        String parts = partsOf(policy);
        for (int i = 0; i < parts.length() && i < MOST_PARTS; i++) {
            nextToken();
            told[i] = partToken(parts.charAt(i));
            if (told[i] == NOTHING) {
                return NOTHING;
            }
        }
        if (policy == NOTHING || nextToken()) {
            return NOTHING;
        }
        return policy;
    }

    private boolean nextToken() {
        int at = tokenEnd;
        while (at < tapeLength && tape[at] == BLANK) {
            at++;
        }
        tokenStart = at;
        while (at < tapeLength && tape[at] != BLANK) {
            at++;
        }
        tokenEnd = at;
        return tokenStart < tokenEnd;
    }

    private int policyToken() {
        if (tokenIs("sweep")) {
            return SWEEP;
        }
        if (tokenIs("slide")) {
            return SLIDE;
        }
        if (tokenIs("halves")) {
            return HALVES;
        }
        if (tokenIs("ages")) {
            return AGES;
        }
        if (tokenIs("counts")) {
            return COUNTS;
        }
        if (tokenIs("steps")) {
            return STEPS;
        }
        return tokenIs("regions") ? REGIONS : NOTHING;
    }

    /** A letter for each part behind the policy's name; partToken tells what each letter stands for. */
    private static String partsOf(int policy) {
        switch (policy) {
            case SWEEP: return "rf";
            case SLIDE: return "r";
            case HALVES: return "r";
            case AGES: return "rrac";
            case COUNTS: return "rf";
            case STEPS: return "rftb";
            case REGIONS: return "rzs";
            default: return "";
        }
    }

    private int partToken(char part) {
        switch (part) {
            case 'r': return numberToken(LEAST_ROOM, MOST_ROOM);
            case 'a': return numberToken(1, MOST_AGE);
            case 'c': return numberToken(LEAST_CARD, MOST_CARD);
            case 't': return numberToken(1, MOST_RATE);
            // The ROOM stands before the SIZE, so it is the SIZE that does not fit it.
            case 'z': return numberToken(LEAST_REGION, Math.min(MOST_REGION, told[0] / LEAST_REGIONS));
            case 's': return numberToken(0, PERCENT);
            case 'f': return formToken();
            default: return barrierToken();
        }
    }

    private int formToken() {
        if (tokenIs("first")) {
            return FIRST;
        }
        if (tokenIs("next")) {
            return NEXT;
        }
        if (tokenIs("best")) {
            return BEST;
        }
        return tokenIs("worst") ? WORST : NOTHING;
    }

    private int barrierToken() {
        if (tokenIs("picture")) {
            return PICTURE;
        }
        return tokenIs("news") ? NEWS : NOTHING;
    }

    private boolean tokenIs(String word) {
        if (tokenEnd - tokenStart != word.length()) {
            return false;
        }
        for (int i = 0; i < word.length() && tokenStart + i < MOST_BYTES; i++) {
            if (tape[tokenStart + i] != word.charAt(i)) {
                return false;
            }
        }
        return true;
    }

    private int numberToken(int least, int most) {
        if (tokenEnd == tokenStart || tokenEnd - tokenStart > MOST_DIGITS) {
            return NOTHING;
        }
        int value = 0;
        for (int at = tokenStart; at < tokenEnd && at < MOST_BYTES; at++) {
            int digit = tape[at] - '0';
            if (digit < 0 || digit > 9) {
                return NOTHING;
            }
            value = value * 10 + digit;
        }
        return value >= least && value <= most ? value : NOTHING;
    }

    private static boolean isSlot(int i) {
        return i >= 0 && i < SLOTS;
    }

    private static int numberOf(Thing thing) {
        return thing == null ? NOTHING : thing.number;
    }

    private Collector needCollector() {
        if (present == null) {
            throw new IllegalStateException();
        }
        return present;
    }

    private Thing needReached(int number) {
        walk.reachAll();
        Thing thing = store.thingAt(number);
        if (thing == null || !walk.keeps(thing)) {
            throw new NoSuchElementException();
        }
        return thing;
    }

    private Thing needReachedOrNothing(int number) {
        return number == NOTHING ? null : needReached(number);
    }

    private int addObject(int kind, int words, long references, int root) {
        Collector collector = needCollector();
        int place = store.given < MOST_OBJECTS ? collector.findRoom(words + 1) : NOTHING;
        if (place == NOTHING) {
            return NOTHING;
        }
        Thing thing = new Thing(store.given, kind, words + 1, references, place);
        store.add(thing);
        collector.noteMade(thing);
        changeRoot(collector, root, thing);
        return thing.number;
    }

    private Thing changeRoot(Collector collector, int i, Thing has) {
        Thing had = store.changeRoot(i, has);
        collector.noteChange(had, has);
        collector.noteFewer(had);
        return had;
    }

    /** An OBJECT that is there. */
    private static final class Thing {
        final int number;
        final int kind;
        final int size;
        final long references;
        int place;
        int age;
        int count;
        int holds;
        boolean wished;

        Thing(int number, int kind, int size, long references, int place) {
            this.number = number;
            this.kind = kind;
            this.size = size;
            this.references = references;
            this.place = place;
        }

        boolean hasWord(int i) {
            return i >= 0 && i < size - 1;
        }

        boolean isReference(int i) {
            return hasWord(i) && (references >>> i & 1L) != 0;
        }
    }

    /**
     * What is in the heap. An OBJECT's first word in the row of words is its NUMBER, its own words follow; a free word
     * is NOTHING, so that OBJECTS and free words can be told apart by going along the row.
     */
    private static final class Store {
        final Thing[] things = new Thing[MOST_OBJECTS];
        final int[] words = new int[MOST_WORDS];
        final int[] roots = new int[SLOTS];
        final int[] weaks = new int[SLOTS];
        final int[] wishes = new int[MOST_OBJECTS];
        int wishCount;
        int given;
        int live;
        int used;
        int cleanings;
        int moved;
        int freed;
        int looked;

        void forgetAll() {
            for (int n = 0; n < MOST_OBJECTS; n++) {
                things[n] = null;
            }
            Arrays.fill(words, NOTHING);
            Arrays.fill(roots, NOTHING);
            Arrays.fill(weaks, NOTHING);
            wishCount = 0;
            given = 0;
            live = 0;
            used = 0;
            cleanings = 0;
            moved = 0;
            freed = 0;
            looked = 0;
        }

        Thing thingAt(int number) {
            return number >= 0 && number < MOST_OBJECTS ? things[number] : null;
        }

        /** The OBJECT whose first word is at that place; the place is a first word or a free one. */
        Thing thingFrom(int place) {
            int number = place >= 0 && place < MOST_WORDS ? words[place] : NOTHING;
            return number >= 0 && number < MOST_OBJECTS ? things[number] : null;
        }

        void add(Thing thing) {
            int end = thing.place + thing.size;
            if (thing.number >= MOST_OBJECTS || thing.place < 0 || end > MOST_WORDS) {
                return;
            }
            things[thing.number] = thing;
            words[thing.place] = thing.number;
            for (int i = 0; i < thing.size - 1; i++) {
                words[thing.place + 1 + i] = thing.isReference(i) ? NOTHING : 0;
            }
            given++;
            live++;
            used += thing.size;
        }

        int wordOf(Thing thing, int i) {
            int at = thing.place + 1 + i;
            return at >= 0 && at < MOST_WORDS ? words[at] : NOTHING;
        }

        int changeInt(Thing thing, int i, int has) {
            int at = thing.place + 1 + i;
            if (at < 0 || at >= MOST_WORDS) {
                return NOTHING;
            }
            int had = words[at];
            words[at] = has;
            return had;
        }

        /** What word i refers to; null for NOTHING and for an int. */
        Thing referenceOf(Thing thing, int i) {
            int at = thing.place + 1 + i;
            boolean refers = (thing.references >>> i & 1L) != 0;
            int number = refers && at >= 0 && at < MOST_WORDS ? words[at] : NOTHING;
            return number >= 0 && number < MOST_OBJECTS ? things[number] : null;
        }

        Thing changeReference(Thing thing, int i, Thing has) {
            Thing had = referenceOf(thing, i);
            changeInt(thing, i, numberOf(has));
            changeCounts(had, has);
            return had;
        }

        Thing changeRoot(int i, Thing has) {
            if (i < 0 || i >= SLOTS) {
                return null;
            }
            Thing had = thingAt(roots[i]);
            roots[i] = numberOf(has);
            changeCounts(had, has);
            return had;
        }

        private static void changeCounts(Thing had, Thing has) {
            if (has != null) {
                has.count++;
            }
            if (had != null) {
                had.count--;
            }
        }

        void changeHolds(Thing thing, int by) {
            thing.holds += by;
            thing.count += by;
        }

        /** A last wish is granted: WEAK lose the OBJECT, and it comes to the end of WISHES. */
        void grant(Thing thing) {
            clearWeak(thing);
            thing.wished = false;
            if (wishCount < MOST_OBJECTS) {
                wishes[wishCount] = thing.number;
                wishCount++;
                thing.count++;
            }
        }

        /** Takes the first out of WISHES; null if there is none. */
        Thing takeWish() {
            if (wishCount <= 0) {
                return null;
            }
            Thing thing = thingAt(wishes[0]);
            wishCount--;
            for (int i = 0; i < wishCount; i++) {
                wishes[i] = wishes[i + 1];
            }
            if (thing != null) {
                thing.count--;
            }
            return thing;
        }

        void clearWeak(Thing thing) {
            for (int i = 0; i < SLOTS; i++) {
                if (weaks[i] == thing.number) {
                    weaks[i] = NOTHING;
                }
            }
        }

        void remove(Thing thing) {
            clearWeak(thing);
            for (int i = 0; i < thing.size - 1; i++) {
                Thing lost = referenceOf(thing, i);
                if (lost != null) {
                    lost.count--;
                }
            }
            freeWords(thing.place, thing.place + thing.size);
            if (thing.number < MOST_OBJECTS) {
                things[thing.number] = null;
            }
            live--;
            used -= thing.size;
            freed += thing.size;
        }

        private void freeWords(int from, int end) {
            for (int at = from; at >= 0 && at < end && at < MOST_WORDS; at++) {
                words[at] = NOTHING;
            }
        }

        /** Moves down by any way, or up by its size at least: what is written is then never read after. */
        void move(Thing thing, int to) {
            int from = thing.place;
            if (to == from || to < 0 || Math.max(from, to) + thing.size > MOST_WORDS) {
                return;
            }
            System.arraycopy(words, from, words, to, thing.size);
            int end = from + thing.size;
            freeWords(to < from ? Math.max(from, to + thing.size) : from, end);
            thing.place = to;
            moved += thing.size;
        }

        /** Of those that the walk does not keep, those with a wish come to WISHES and are kept by that. */
        void grantWishes(Walk walk) {
            for (int n = 0; n < given; n++) {
                Thing thing = thingAt(n);
                if (thing != null && thing.wished && !walk.keeps(thing)) {
                    grant(thing);
                    walk.comes(thing);
                    walk.spread(MOST_OBJECTS);
                }
            }
        }

        /** Ends a cleaning: what the walk does not keep is gone. Answers how many words got free. */
        int removeOthers(Walk walk) {
            int before = freed;
            for (int n = 0; n < given; n++) {
                Thing thing = thingAt(n);
                if (thing != null && !walk.keeps(thing)) {
                    remove(thing);
                }
            }
            cleanings++;
            return freed - before;
        }
    }

    /** A row of OBJECTS in the order in which they are come to; behind head they are GREY, before it BLACK. */
    private static final class Walk {
        private final Store store;
        final int[] queue = new int[MOST_OBJECTS];
        final int[] colours = new int[MOST_OBJECTS];
        int head;
        int tail;
        private int floor;

        Walk(Store store) {
            this.store = store;
        }

        /** OBJECTS at places below the floor are kept and not walked over. */
        void restart(int newFloor) {
            Arrays.fill(colours, WHITE);
            head = 0;
            tail = 0;
            floor = newFloor;
        }

        void reachAll() {
            restart(0);
            comeFromRoots();
            spread(MOST_OBJECTS);
        }

        boolean keeps(Thing thing) {
            return thing.place < floor || colourOf(thing) != WHITE;
        }

        int colourOf(Thing thing) {
            return thing.number < MOST_OBJECTS ? colours[thing.number] : WHITE;
        }

        void blacken(Thing thing) {
            if (thing.number < MOST_OBJECTS) {
                colours[thing.number] = BLACK;
            }
        }

        void comes(Thing thing) {
            if (thing == null || thing.place < floor || thing.number >= MOST_OBJECTS || tail >= MOST_OBJECTS) {
                return;
            }
            if (colours[thing.number] == WHITE) {
                colours[thing.number] = GREY;
                queue[tail] = thing.number;
                tail++;
            }
        }

        void comeFromRoots() {
            for (int i = 0; i < SLOTS; i++) {
                comes(store.thingAt(store.roots[i]));
            }
            for (int i = 0; i < store.wishCount; i++) {
                comes(store.thingAt(store.wishes[i]));
            }
            for (int n = 0; n < store.given; n++) {
                Thing thing = store.thingAt(n);
                if (thing != null && thing.holds > 0) {
                    comes(thing);
                }
            }
        }

        boolean isEmpty() {
            return head >= tail;
        }

        Thing thingInQueue(int i) {
            return i >= 0 && i < tail ? store.thingAt(queue[i]) : null;
        }

        /** Does at most that many steps: the first GREY one is BLACK, what it refers to comes. Answers how many. */
        int spread(int most) {
            int done = 0;
            for (; done < most && head < tail; done++) {
                Thing thing = store.thingAt(queue[head]);
                head++;
                if (thing != null) {
                    blacken(thing);
                    for (int i = 0; i < thing.size - 1; i++) {
                        comes(store.referenceOf(thing, i));
                    }
                }
            }
            return done;
        }
    }

    /** A POLICY at work: it finds places and cleans, and is told of what changes. */
    private abstract static class Collector {
        final Store store;
        final Walk walk;

        Collector(Store store, Walk walk) {
            this.store = store;
            this.walk = walk;
        }

        abstract void open(int[] told);

        abstract int total();

        /** A place for that many words, cleaned for it if need be; NOTHING if it is FULL. */
        abstract int findRoom(int size);

        abstract void noteMade(Thing thing);

        /** Answers how many words got free. */
        abstract int cleanAll();

        /** A ROOT or a REFERENCE that had the one has the other now; each may be null. */
        void noteChange(Thing had, Thing has) {
        }

        /** One (or null) that may count less now. */
        void noteFewer(Thing thing) {
        }

        void noteReference(Thing thing, int i, Thing has) {
        }

        void noteStrong(Thing thing) {
        }

        boolean canHold(Thing thing) {
            return true;
        }

        int countOf(Thing thing) {
            return 0;
        }

        int colourOf(Thing thing) {
            return WHITE;
        }

        int specials() {
            return 0;
        }

        int topPlace() {
            return 0;
        }

        boolean isMarking() {
            return false;
        }

        int oldTopOrRegion() {
            return 0;
        }

        /** Keeps what is REACHED, and by wishes; the rest is gone. Answers how many words got free. */
        final int removeUnreached() {
            walk.reachAll();
            store.grantWishes(walk);
            return store.removeOthers(walk);
        }

        /** Slides what begins below the limit to the beginning. Answers the end of the last one. */
        final int slideDown(int limit) {
            int end = 0;
            int at = 0;
            while (at < limit) {
                Thing thing = store.thingFrom(at);
                if (thing == null) {
                    at++;
                } else {
                    at += thing.size;
                    if (thing.holds == 0) {
                        store.move(thing, end);
                    }
                    end = thing.place + thing.size;
                }
            }
            return end;
        }
    }

    private static class Sweep extends Collector {
        int room;
        private int form;
        private int lastEnd;

        Sweep(Store store, Walk walk) {
            super(store, walk);
        }

        @Override
        void open(int[] told) {
            room = told[0];
            form = told[1];
            lastEnd = 0;
        }

        @Override
        int total() {
            return room;
        }

        @Override
        int findRoom(int size) {
            int place = fit(size);
            if (place == NOTHING) {
                cleanAll();
                place = fit(size);
            }
            return place;
        }

        @Override
        void noteMade(Thing thing) {
            lastEnd = thing.place + thing.size;
        }

        @Override
        int cleanAll() {
            return removeUnreached();
        }

        /** The place of FREE BLOCK i; NOTHING if there is none. */
        final int blockPlace(int i) {
            int left = i;
            for (int at = freeFrom(0); left >= 0 && at < room; at = freeFrom(freeEnd(at))) {
                if (left == 0) {
                    return at;
                }
                left--;
            }
            return NOTHING;
        }

        /** The first free word from there on; the place is an OBJECT's first word, a free one, or the ROOM's end. */
        final int freeFrom(int place) {
            int at = place;
            while (at < room) {
                Thing thing = store.thingFrom(at);
                if (thing == null) {
                    return at;
                }
                at += thing.size;
            }
            return room;
        }

        final int freeEnd(int place) {
            int at = place;
            while (at < room && store.thingFrom(at) == null) {
                at++;
            }
            return at;
        }

        final int fit(int size) {
            switch (form) {
                case FIRST: return fitFirst(0, room, size);
                case NEXT: return fitNext(size);
                case BEST: return fitByLength(size, true);
                default: return fitByLength(size, false);
            }
        }

        private int fitFirst(int from, int before, int size) {
            int at = freeFrom(from);
            for (int blocks = 0; blocks < MOST_WORDS && at < before; blocks++) {
                int end = freeEnd(at);
                store.looked++;
                if (end - at >= size) {
                    return at;
                }
                at = freeFrom(end);
            }
            return NOTHING;
        }

        private int fitNext(int size) {
            int place = fitFirst(lastEnd, room, size);
            return place != NOTHING ? place : fitFirst(0, lastEnd, size);
        }

        private int fitByLength(int size, boolean smallest) {
            int place = NOTHING;
            int length = 0;
            int at = freeFrom(0);
            for (int blocks = 0; blocks < MOST_WORDS && at < room; blocks++) {
                int end = freeEnd(at);
                int words = end - at;
                store.looked++;
                if (words >= size && (place == NOTHING || (smallest ? words < length : words > length))) {
                    place = at;
                    length = words;
                }
                at = freeFrom(end);
            }
            return place;
        }
    }

    private static final class Slide extends Collector {
        private int room;
        private int top;

        Slide(Store store, Walk walk) {
            super(store, walk);
        }

        @Override
        void open(int[] told) {
            room = told[0];
            top = 0;
        }

        @Override
        int total() {
            return room;
        }

        @Override
        int findRoom(int size) {
            if (top + size > room) {
                cleanAll();
            }
            return top + size > room ? NOTHING : top;
        }

        @Override
        void noteMade(Thing thing) {
            top = thing.place + thing.size;
        }

        @Override
        int cleanAll() {
            int free = removeUnreached();
            top = slideDown(room);
            return free;
        }

        @Override
        int topPlace() {
            return top;
        }
    }

    private static final class Halves extends Collector {
        private int room;
        private int start;
        private int top;

        Halves(Store store, Walk walk) {
            super(store, walk);
        }

        @Override
        void open(int[] told) {
            room = told[0];
            start = 0;
            top = 0;
        }

        @Override
        int total() {
            return 2 * room;
        }

        @Override
        int findRoom(int size) {
            if (!hasRoom(size)) {
                cleanAll();
            }
            return hasRoom(size) ? top : NOTHING;
        }

        private boolean hasRoom(int size) {
            return top + size <= start + room;
        }

        @Override
        void noteMade(Thing thing) {
            top = thing.place + thing.size;
        }

        @Override
        int cleanAll() {
            int free = removeUnreached();
            start = room - start;
            top = start;
            for (int i = 0; i < walk.tail; i++) {
                Thing thing = walk.thingInQueue(i);
                if (thing != null) {
                    store.move(thing, top);
                    top += thing.size;
                }
            }
            return free;
        }

        @Override
        boolean canHold(Thing thing) {
            return false;
        }

        @Override
        int topPlace() {
            return top;
        }
    }

    private static final class Ages extends Collector {
        private int young;
        private int old;
        private int lastAge;
        private int card;
        private int oldTop;
        private int start;
        private int top;
        private final int[] dirty = new int[MOST_CARDS];

        Ages(Store store, Walk walk) {
            super(store, walk);
        }

        @Override
        void open(int[] told) {
            young = told[0];
            old = told[1];
            lastAge = told[2];
            card = told[3];
            oldTop = 0;
            start = old;
            top = old;
            Arrays.fill(dirty, 0);
        }

        @Override
        int total() {
            return old + 2 * young;
        }

        @Override
        int findRoom(int size) {
            if (size > young / 2) {
                return findOldRoom(size);
            }
            if (!hasYoungRoom(size)) {
                cleanYoung();
            }
            if (!hasYoungRoom(size)) {
                cleanOld();
                cleanYoung();
            }
            return hasYoungRoom(size) ? top : NOTHING;
        }

        private int findOldRoom(int size) {
            if (oldTop + size > old) {
                cleanOld();
            }
            return oldTop + size > old ? NOTHING : oldTop;
        }

        private boolean hasYoungRoom(int size) {
            return top + size <= start + young;
        }

        @Override
        void noteMade(Thing thing) {
            if (isYoung(thing)) {
                top = thing.place + thing.size;
            } else {
                oldTop = thing.place + thing.size;
            }
        }

        @Override
        int cleanAll() {
            int free = cleanOld();
            return free + cleanYoung();
        }

        /** The major cleaning. */
        private int cleanOld() {
            walk.reachAll();
            store.grantWishes(walk);
            int free = store.removeOthers(walk);
            oldTop = slideDown(old);
            findDirty();
            return free;
        }

        /** The minor cleaning, with a major one ahead if OLD might be too full for those that would come to it. */
        private int cleanYoung() {
            int free = 0;
            if (oldTop + wordsGrowingOld() > old) {
                free = cleanOld();
            }
            if (oldTop + wordsGrowingOld() > old) {
                return free;
            }
            walk.restart(old);
            walk.comeFromRoots();
            comeFromDirty();
            walk.spread(MOST_OBJECTS);
            store.grantWishes(walk);
            free += store.removeOthers(walk);
            moveKept();
            findDirty();
            return free;
        }

        private int wordsGrowingOld() {
            int words = 0;
            for (int n = 0; n < store.given; n++) {
                Thing thing = store.thingAt(n);
                if (thing != null && isYoung(thing) && thing.age + 1 >= lastAge) {
                    words += thing.size;
                }
            }
            return words;
        }

        private void comeFromDirty() {
            int at = 0;
            while (at < oldTop) {
                Thing thing = store.thingFrom(at);
                if (thing == null) {
                    at++;
                } else {
                    at += thing.size;
                    comeFromDirtyWords(thing);
                }
            }
        }

        private void comeFromDirtyWords(Thing thing) {
            for (int i = 0; i < thing.size - 1; i++) {
                int at = cardOf(thing, i);
                if (at >= 0 && at < MOST_CARDS && dirty[at] != 0) {
                    walk.comes(store.referenceOf(thing, i));
                }
            }
        }

        private void moveKept() {
            start = old + young + old - start;
            top = start;
            for (int i = 0; i < walk.tail; i++) {
                Thing thing = walk.thingInQueue(i);
                if (thing != null) {
                    moveOlder(thing);
                }
            }
        }

        private void moveOlder(Thing thing) {
            thing.age++;
            if (thing.age >= lastAge) {
                store.move(thing, oldTop);
                oldTop += thing.size;
            } else {
                store.move(thing, top);
                top += thing.size;
            }
        }

        private void findDirty() {
            Arrays.fill(dirty, 0);
            for (int n = 0; n < store.given; n++) {
                Thing thing = store.thingAt(n);
                if (thing != null && !isYoung(thing)) {
                    for (int i = 0; i < thing.size - 1; i++) {
                        noteReference(thing, i, store.referenceOf(thing, i));
                    }
                }
            }
        }

        private boolean isYoung(Thing thing) {
            return thing.place >= old;
        }

        private int cardOf(Thing thing, int i) {
            return card > 0 ? (thing.place + 1 + i) / card : NOTHING;
        }

        @Override
        void noteReference(Thing thing, int i, Thing has) {
            int at = cardOf(thing, i);
            if (has != null && !isYoung(thing) && isYoung(has) && at >= 0 && at < MOST_CARDS) {
                dirty[at] = 1;
            }
        }

        @Override
        boolean canHold(Thing thing) {
            return !isYoung(thing);
        }

        @Override
        int specials() {
            int sum = 0;
            for (int i = 0; i < MOST_CARDS; i++) {
                sum += dirty[i];
            }
            return sum;
        }

        @Override
        int topPlace() {
            return top;
        }

        @Override
        int oldTopOrRegion() {
            return oldTop;
        }
    }

    private static final class Counts extends Sweep {
        // More than the words and OBJECTS that can go at once.
        private static final int MOST_TURNS = 1_000_000;

        private final Thing[] going = new Thing[MOST_OBJECTS];
        private final int[] nextWord = new int[MOST_OBJECTS];
        private int depth;

        Counts(Store store, Walk walk) {
            super(store, walk);
        }

        @Override
        int countOf(Thing thing) {
            return thing.count;
        }

        /** What one that goes referred to goes ahead of its next word: a stack, as such a chain may be long. */
        @Override
        void noteFewer(Thing thing) {
            depth = 0;
            fallIfUncounted(thing);
            for (int turn = 0; depth > 0 && turn < MOST_TURNS; turn++) {
                Thing last = going[depth - 1];
                int i = nextWord[depth - 1];
                if (last == null) {
                    depth--;
                } else if (last.hasWord(i)) {
                    nextWord[depth - 1] = i + 1;
                    dropWord(last, i);
                } else {
                    depth--;
                    store.remove(last);
                }
            }
        }

        private void dropWord(Thing thing, int i) {
            if (thing.isReference(i)) {
                fallIfUncounted(store.changeReference(thing, i, null));
            }
        }

        private void fallIfUncounted(Thing thing) {
            if (thing == null || thing.count > 0) {
                return;
            }
            if (thing.wished) {
                store.grant(thing);
            } else if (depth < MOST_OBJECTS) {
                going[depth] = thing;
                nextWord[depth] = 0;
                depth++;
            }
        }
    }

    private static final class Steps extends Sweep {
        private final Walk marks;
        private int rate;
        private int barrier;
        private boolean marking;

        Steps(Store store, Walk walk) {
            super(store, walk);
            marks = new Walk(store);
        }

        @Override
        void open(int[] told) {
            super.open(told);
            rate = told[2];
            barrier = told[3];
            marking = false;
        }

        @Override
        int findRoom(int size) {
            if (!marking && 4 * (room - store.used) < room) {
                begin();
            }
            goOn(rate);
            int place = fit(size);
            boolean wasMarking = marking;
            if (place == NOTHING) {
                cleanAll();
                place = fit(size);
            }
            if (place == NOTHING && wasMarking) {
                cleanAll();
                place = fit(size);
            }
            return place;
        }

        @Override
        void noteMade(Thing thing) {
            super.noteMade(thing);
            if (marking) {
                marks.blacken(thing);
            }
        }

        @Override
        int cleanAll() {
            if (!marking) {
                begin();
            }
            marks.spread(MOST_OBJECTS);
            for (int turn = 0; turn < MOST_OBJECTS && newsCame(); turn++) {
                marks.spread(MOST_OBJECTS);
            }
            return finish();
        }

        /** Answers how many steps it did. */
        int goOn(int most) {
            if (!marking) {
                return 0;
            }
            int done = marks.spread(most);
            if (marks.isEmpty() && !newsCame()) {
                finish();
            }
            return done;
        }

        private void begin() {
            marking = true;
            marks.restart(0);
            marks.comeFromRoots();
        }

        /** HOLDS pass no barrier: what they have may be WHITE still. */
        private boolean newsCame() {
            if (barrier == NEWS) {
                marks.comeFromRoots();
            }
            return !marks.isEmpty();
        }

        private int finish() {
            marking = false;
            store.grantWishes(marks);
            return store.removeOthers(marks);
        }

        @Override
        void noteChange(Thing had, Thing has) {
            if (marking && had != has) {
                marks.comes(barrier == PICTURE ? had : has);
            }
        }

        @Override
        void noteStrong(Thing thing) {
            if (marking) {
                marks.comes(thing);
            }
        }

        @Override
        int colourOf(Thing thing) {
            return marking ? marks.colourOf(thing) : WHITE;
        }

        @Override
        int specials() {
            return marking ? marks.tail - marks.head : 0;
        }

        @Override
        boolean isMarking() {
            return marking;
        }
    }

    private static final class Regions extends Collector {
        private int size;
        private int regions;
        private int share;
        private int present;
        private int target;
        private final int[] tops = new int[MOST_REGIONS];
        // KEPT words of the REGIONS that are to be emptied, 0 of the others.
        private final int[] leaving = new int[MOST_REGIONS];

        Regions(Store store, Walk walk) {
            super(store, walk);
        }

        @Override
        void open(int[] told) {
            size = told[1];
            regions = size > 0 ? Math.min(told[0] / size, MOST_REGIONS) : 0;
            share = told[2];
            present = 0;
            Arrays.fill(tops, 0);
        }

        @Override
        int total() {
            return regions * size;
        }

        @Override
        int findRoom(int words) {
            if (words > size) {
                return NOTHING;
            }
            // The last EMPTY one is left for a cleaning to move to.
            if (!fits(present, words) && specials() < 2) {
                cleanAll();
            }
            if (!fits(present, words)) {
                present = orElse(leastEmpty(), present);
            }
            return fits(present, words) ? topPlace() : NOTHING;
        }

        private boolean fits(int region, int words) {
            return region >= 0 && region < MOST_REGIONS && tops[region] + words <= size;
        }

        private int topOf(int region) {
            return region >= 0 && region < MOST_REGIONS ? tops[region] : 0;
        }

        private void raiseTop(int region, int words) {
            if (region >= 0 && region < MOST_REGIONS) {
                tops[region] += words;
            }
        }

        private static int orElse(int region, int other) {
            return region == NOTHING ? other : region;
        }

        private int leastEmpty() {
            for (int r = 0; r < regions && r < MOST_REGIONS; r++) {
                if (tops[r] == 0) {
                    return r;
                }
            }
            return NOTHING;
        }

        @Override
        void noteMade(Thing thing) {
            raiseTop(present, thing.size);
        }

        @Override
        int cleanAll() {
            int free = removeUnreached();
            sumKept();
            emptyWhereNothingIsLeft();
            chooseLeaving();
            target = NOTHING;
            int region = fewestLeaving();
            for (int turn = 0; turn < MOST_REGIONS && region != NOTHING && moveAll(region); turn++) {
                region = fewestLeaving();
            }
            if (target != NOTHING) {
                present = target;
            } else if (topOf(present) == 0) {
                present = orElse(leastEmpty(), present);
            }
            return free;
        }

        private int regionOf(Thing thing) {
            return size > 0 ? Math.min(thing.place / size, MOST_REGIONS - 1) : 0;
        }

        private void sumKept() {
            Arrays.fill(leaving, 0);
            for (int n = 0; n < store.given; n++) {
                Thing thing = store.thingAt(n);
                if (thing != null) {
                    leaving[regionOf(thing)] += thing.size;
                }
            }
        }

        private void emptyWhereNothingIsLeft() {
            for (int r = 0; r < MOST_REGIONS; r++) {
                if (leaving[r] == 0) {
                    tops[r] = 0;
                }
            }
        }

        private void chooseLeaving() {
            for (int r = 0; r < MOST_REGIONS; r++) {
                if (r == present || leaving[r] * PERCENT > share * size) {
                    leaving[r] = 0;
                }
            }
            for (int n = 0; n < store.given; n++) {
                Thing thing = store.thingAt(n);
                if (thing != null && thing.holds > 0) {
                    leaving[regionOf(thing)] = 0;
                }
            }
        }

        private int fewestLeaving() {
            int fewest = NOTHING;
            for (int r = 0; r < MOST_REGIONS; r++) {
                if (leaving[r] > 0 && (fewest == NOTHING || leaving[r] < leaving[fewest])) {
                    fewest = r;
                }
            }
            return fewest;
        }

        /** Answers whether all of it found a place. */
        private boolean moveAll(int region) {
            int at = region * size;
            int end = at + topOf(region);
            while (at < end) {
                Thing thing = store.thingFrom(at);
                if (thing == null) {
                    at++;
                } else {
                    at += thing.size;
                    if (!moveOut(thing)) {
                        return false;
                    }
                }
            }
            if (region >= 0 && region < MOST_REGIONS) {
                leaving[region] = 0;
                tops[region] = 0;
            }
            return true;
        }

        private boolean moveOut(Thing thing) {
            int to = fits(target, thing.size) ? target : leastEmpty();
            if (to == NOTHING) {
                return false;
            }
            target = to;
            store.move(thing, to * size + topOf(to));
            raiseTop(to, thing.size);
            return true;
        }

        @Override
        int specials() {
            int sum = 0;
            for (int r = 0; r < regions && r < MOST_REGIONS; r++) {
                if (tops[r] == 0) {
                    sum++;
                }
            }
            return sum;
        }

        @Override
        int topPlace() {
            return present * size + topOf(present);
        }

        @Override
        int oldTopOrRegion() {
            return present;
        }
    }
}
