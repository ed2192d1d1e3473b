import java.util.ArrayList;
import java.util.Arrays;
import java.util.Collection;
import java.util.Collections;
import java.util.Comparator;
import java.util.HashMap;
import java.util.LinkedHashSet;
import java.util.List;
import java.util.Map;
import java.util.NoSuchElementException;
import java.util.TreeMap;
import java.util.TreeSet;

/**
 * The document told a second time, with no code of the class and as plainly as may be: objects that refer to objects,
 * no row of words, everything that can be found by looking is looked for anew. SecondTest holds the class against it. It
 * reads the document as the class does where that leaves room: it finds slips, not misreadings.
 */
final class SecondHouse {
    private static final int SLOTS = 16;
    private static final Map<String, String> POLICIES = Map.of(
        "sweep", "ROOM FORM", "slide", "ROOM", "halves", "ROOM", "ages", "ROOM ROOM AGE CARD", "counts", "ROOM FORM",
        "steps", "ROOM FORM RATE BARRIER", "regions", "ROOM SIZE SHARE");
    private static final Map<String, int[]> RANGES = Map.of(
        "ROOM", new int[] {16, 1500}, "AGE", new int[] {1, 7}, "CARD", new int[] {4, 64}, "RATE", new int[] {1, 50},
        "SIZE", new int[] {16, 256}, "SHARE", new int[] {0, 100});
    private static final Map<String, List<String>> WORDS = Map.of(
        "FORM", List.of("first", "next", "best", "worst"), "BARRIER", List.of("picture", "news"));

    private String tape = "";
    private final List<boolean[]> kinds = new ArrayList<>();
    private Heap heap;

    /** The answer as text, an exception as '!' and its class, as Runs tells them. */
    String answer(String call) {
        String[] words = call.split(" ");
        int[] v = new int[5];
        for (int i = 1; i < words.length; i++) {
            v[i - 1] = words[i].equals("true") ? 1 : words[i].equals("false") ? 0 : Integer.parseInt(words[i]);
        }
        try {
            return String.valueOf(number(words[0], v));
        } catch (RuntimeException e) {
            return "!" + e.getClass().getSimpleName() + (e.getMessage() == null ? "" : e.getMessage());
        }
    }

    private int number(String name, int[] v) {
        switch (name) {
            case "feed": return feed(v);
            case "end": return end(v[0]);
            case "kind": return kind(v[0], v[1]);
            case "heap": return heap();
            case "make": return make(v[0], v[1]);
            case "row": return row(v[0] != 0, v[1], v[2]);
            case "put": return put(v[0], v[1], v[2]);
            case "link": return link(v[0], v[1], v[2]);
            case "get": return get(v[0], v[1]);
            case "root": return root(v[0], v[1]);
            case "weak": return weak(v[0], v[1]);
            case "strong": return strong(v[0], v[1]);
            case "hold": return hold(v[0], v[1] != 0);
            case "wish": return wish(v[0]);
            case "granted": return granted(v[0]);
            case "clean": return needHeap().clean();
            case "step": return step(v[0]);
            case "about": return about(v[0], v[1]);
            case "block": return block(v[0], v[1]);
            default: return count(v[0]);
        }
    }

    /** The NUMBERS that calls may name. */
    List<Integer> reached() {
        List<Integer> numbers = new ArrayList<>();
        if (heap != null) {
            for (One one : heap.reached()) {
                numbers.add(one.number);
            }
        }
        Collections.sort(numbers);
        return numbers;
    }

    /** Words of one that is there, true for each that is a REFERENCE. */
    boolean[] wordsOf(int number) {
        return heap == null || heap.there.get(number) == null ? new boolean[0] : heap.there.get(number).refers;
    }

    int kindsTold() {
        return kinds.size();
    }

    private static void range(int value, int least, int most) {
        if (value < least || value > most) {
            throw new IllegalArgumentException();
        }
    }

    private Heap needHeap() {
        if (heap == null) {
            throw new IllegalStateException();
        }
        return heap;
    }

    private One named(int number) {
        One one = needHeap().there.get(number);
        if (one == null || !heap.reached().contains(one)) {
            throw new NoSuchElementException();
        }
        return one;
    }

    private One namedOrNothing(int number) {
        return number == -1 ? null : named(number);
    }

    private static int numberOf(One one) {
        return one == null ? -1 : one.number;
    }

    private int feed(int[] v) {
        if (tape.length() + 20 > 100) {
            throw new IndexOutOfBoundsException();
        }
        for (int i = 0; i < 20; i++) {
            tape += (char) (v[i / 4] >>> 24 - 8 * (i % 4) & 255);
        }
        return tape.length();
    }

    private int end(int n) {
        range(n, 0, tape.length());
        tape = tape.substring(0, n);
        return n;
    }

    private int kind(int words, int references) {
        range(words, 0, 8);
        range(references, 0, (1 << words) - 1);
        if (kinds.size() == 16) {
            throw new IllegalStateException();
        }
        boolean[] refers = new boolean[words];
        for (int i = 0; i < words; i++) {
            refers[i] = (references >> i & 1) == 1;
        }
        kinds.add(refers);
        return kinds.size() - 1;
    }

    private int heap() {
        String text = tape;
        tape = "";
        List<Integer> starts = new ArrayList<>();
        List<String> parts = new ArrayList<>();
        for (int i = 0; i < text.length(); i++) {
            if (text.charAt(i) != ' ') {
                if (i == 0 || text.charAt(i - 1) == ' ') {
                    starts.add(i);
                    parts.add("");
                }
                parts.set(parts.size() - 1, parts.get(parts.size() - 1) + text.charAt(i));
            }
        }
        starts.add(text.length());
        int wrong = wrongPart(parts);
        if (wrong >= 0) {
            return -1 - starts.get(wrong);
        }
        heap = Heap.of(parts);
        return heap.words();
    }

    /** The first part that is wrong, or lacks; -1 if it is a POLICY. */
    private static int wrongPart(List<String> parts) {
        if (parts.isEmpty() || !POLICIES.containsKey(parts.get(0))) {
            return 0;
        }
        String[] wants = POLICIES.get(parts.get(0)).split(" ");
        for (int i = 1; i <= wants.length; i++) {
            if (i >= parts.size() || !stands(wants[i - 1], parts.get(i))) {
                return i;
            }
            if (wants[i - 1].equals("SIZE") && 4 * Integer.parseInt(parts.get(i)) > Integer.parseInt(parts.get(i - 1))) {
                return i;
            }
        }
        return parts.size() > wants.length + 1 ? wants.length + 1 : -1;
    }

    private static boolean stands(String want, String part) {
        if (WORDS.containsKey(want)) {
            return WORDS.get(want).contains(part);
        }
        int[] range = RANGES.get(want);
        return part.matches("[0-9]{1,5}") && Integer.parseInt(part) >= range[0] && Integer.parseInt(part) <= range[1];
    }

    private int make(int kind, int root) {
        range(kind, 0, kinds.size() - 1);
        range(root, 0, SLOTS - 1);
        return make(kind, kinds.get(kind), root);
    }

    private int row(boolean references, int n, int root) {
        range(n, 0, 60);
        range(root, 0, SLOTS - 1);
        boolean[] refers = new boolean[n];
        Arrays.fill(refers, references);
        return make(references ? 16 : 17, refers, root);
    }

    private int make(int kind, boolean[] refers, int root) {
        int place = needHeap().room(refers.length + 1);
        if (place < 0) {
            return -1;
        }
        One one = new One(heap.given, kind, refers, place);
        heap.given++;
        heap.there.put(one.number, one);
        heap.made(one);
        heap.changeRoot(root, one);
        return one.number;
    }

    private int put(int object, int i, int v) {
        One one = named(object);
        needWord(one, i);
        if (one.refers[i]) {
            throw new ClassCastException();
        }
        int was = one.ints[i];
        one.ints[i] = v;
        return was;
    }

    private int link(int object, int i, int to) {
        needHeap();
        One one = named(object);
        One has = namedOrNothing(to);
        needWord(one, i);
        if (!one.refers[i]) {
            throw new ClassCastException();
        }
        One had = one.ones[i];
        one.ones[i] = has;
        heap.putReference(one, i, has);
        heap.changed(had, has);
        heap.fewer(had);
        return numberOf(had);
    }

    private int get(int object, int i) {
        One one = named(object);
        needWord(one, i);
        return one.refers[i] ? numberOf(one.ones[i]) : one.ints[i];
    }

    private static void needWord(One one, int i) {
        if (i < 0 || i >= one.refers.length) {
            throw new IndexOutOfBoundsException();
        }
    }

    private int root(int i, int object) {
        range(i, 0, SLOTS - 1);
        needHeap();
        return numberOf(heap.changeRoot(i, namedOrNothing(object)));
    }

    private int weak(int i, int object) {
        range(i, 0, SLOTS - 1);
        needHeap();
        One has = namedOrNothing(object);
        One had = heap.weaks[i];
        heap.weaks[i] = has;
        return numberOf(had);
    }

    private int strong(int i, int root) {
        range(i, 0, SLOTS - 1);
        range(root, 0, SLOTS - 1);
        One one = needHeap().weaks[i];
        if (one != null) {
            heap.changeRoot(root, one);
            heap.madeStrong(one);
        }
        return numberOf(one);
    }

    private int hold(int object, boolean on) {
        One one = named(object);
        if (!heap.canHold(one) || !on && one.holds == 0) {
            throw new UnsupportedOperationException();
        }
        one.holds += on ? 1 : -1;
        heap.fewer(one);
        return one.holds;
    }

    private int wish(int object) {
        One one = named(object);
        int answer = one.wish ? 0 : 1;
        one.wish = true;
        return answer;
    }

    private int granted(int root) {
        range(root, 0, SLOTS - 1);
        if (needHeap().wishes.isEmpty()) {
            return -1;
        }
        One one = heap.wishes.get(0);
        heap.changeRoot(root, one);
        heap.wishes.remove(0);
        return one.number;
    }

    private int step(int n) {
        range(n, 0, 1000);
        if (needHeap() instanceof Steps steps) {
            return steps.marking ? steps.stepsAndThen(n) : 0;
        }
        throw new UnsupportedOperationException();
    }

    private int about(int object, int what) {
        range(what, 0, 7);
        One one = named(object);
        int[] all = {one.place, one.size(), one.kind, one.age, heap.countOf(one), heap.colourOf(one), one.holds,
            one.wish ? 1 : 0};
        return all[what];
    }

    private int block(int i, int part) {
        range(part, 0, 1);
        if (needHeap() instanceof Swept swept) {
            List<int[]> blocks = swept.blocks();
            if (i < 0 || i >= blocks.size()) {
                throw new IndexOutOfBoundsException();
            }
            return blocks.get(i)[part];
        }
        throw new UnsupportedOperationException();
    }

    private int count(int what) {
        range(what, 0, 13);
        if (what < 2) {
            return what == 0 ? tape.length() : kinds.size();
        }
        needHeap();
        int[] all = {heap.there.size(), heap.used(), heap.given, heap.cleanings, heap.moved, heap.freed, heap.looked,
            heap.wishes.size(), heap.special(), heap.top(), heap.marks() ? 1 : 0, heap.oldTop()};
        return all[what - 2];
    }

    private static final class One {
        final int number;
        final int kind;
        final boolean[] refers;
        final int[] ints;
        final One[] ones;
        int place;
        int age;
        int holds;
        boolean wish;

        One(int number, int kind, boolean[] refers, int place) {
            this.number = number;
            this.kind = kind;
            this.refers = refers;
            this.ints = new int[refers.length];
            this.ones = new One[refers.length];
            this.place = place;
        }

        int size() {
            return refers.length + 1;
        }
    }

    private abstract static class Heap {
        final TreeMap<Integer, One> there = new TreeMap<>();
        final One[] roots = new One[SLOTS];
        final One[] weaks = new One[SLOTS];
        final List<One> wishes = new ArrayList<>();
        int given;
        int cleanings;
        int moved;
        int freed;
        int looked;

        static Heap of(List<String> parts) {
            int[] n = new int[5];
            for (int i = 1; i < parts.size(); i++) {
                n[i] = parts.get(i).matches("[0-9]+") ? Integer.parseInt(parts.get(i)) : 0;
            }
            switch (parts.get(0)) {
                case "sweep": return new Swept(n[1], parts.get(2));
                case "slide": return new Slid(n[1]);
                case "halves": return new Halved(n[1]);
                case "ages": return new Aged(n[1], n[2], n[3], n[4]);
                case "counts": return new Counted(n[1], parts.get(2));
                case "steps": return new Steps(n[1], parts.get(2), n[3], parts.get(4).equals("picture"));
                default: return new Regioned(n[1], n[2], n[3]);
            }
        }

        abstract int words();

        /** A PLACE; -1 FULL. */
        abstract int room(int size);

        abstract void made(One one);

        abstract int clean();

        void changed(One had, One has) {
        }

        void fewer(One one) {
        }

        void putReference(One one, int i, One has) {
        }

        void madeStrong(One one) {
        }

        boolean canHold(One one) {
            return true;
        }

        int countOf(One one) {
            return 0;
        }

        int colourOf(One one) {
            return 0;
        }

        int special() {
            return 0;
        }

        int top() {
            return 0;
        }

        boolean marks() {
            return false;
        }

        int oldTop() {
            return 0;
        }

        One changeRoot(int i, One has) {
            One had = roots[i];
            roots[i] = has;
            changed(had, has);
            fewer(had);
            return had;
        }

        int used() {
            int sum = 0;
            for (One one : there.values()) {
                sum += one.size();
            }
            return sum;
        }

        /** What ROOTS, WISHES and HOLDS have, in this order; null for NOTHING. */
        List<One> begins() {
            List<One> all = new ArrayList<>(Arrays.asList(roots));
            all.addAll(wishes);
            for (One one : there.values()) {
                if (one.holds > 0) {
                    all.add(one);
                }
            }
            return all;
        }

        /** Those that come, and then what those that came lead to, if they are in the places from there on. */
        static void come(LinkedHashSet<One> came, Collection<One> begins, int from) {
            List<One> row = new ArrayList<>();
            for (One one : begins) {
                if (one != null && one.place >= from && came.add(one)) {
                    row.add(one);
                }
            }
            for (int i = 0; i < row.size(); i++) {
                for (One to : row.get(i).ones) {
                    if (to != null && to.place >= from && came.add(to)) {
                        row.add(to);
                    }
                }
            }
        }

        LinkedHashSet<One> reached() {
            LinkedHashSet<One> came = new LinkedHashSet<>();
            come(came, begins(), 0);
            return came;
        }

        /** Wishes, then WEAK, then the rest is gone; places below are KEPT. Answers how many words got free. */
        int removeBut(LinkedHashSet<One> kept, int from) {
            for (One one : there.values()) {
                if (one.wish && one.place >= from && !kept.contains(one)) {
                    grant(one);
                    come(kept, List.of(one), from);
                }
            }
            int free = 0;
            for (One one : new ArrayList<>(there.values())) {
                if (one.place >= from && !kept.contains(one)) {
                    loseWeak(one);
                    there.remove(one.number);
                    free += one.size();
                }
            }
            freed += free;
            cleanings++;
            return free;
        }

        void grant(One one) {
            loseWeak(one);
            one.wish = false;
            wishes.add(one);
        }

        void loseWeak(One one) {
            for (int i = 0; i < SLOTS; i++) {
                if (weaks[i] == one) {
                    weaks[i] = null;
                }
            }
        }

        void move(One one, int to) {
            if (one.place != to) {
                one.place = to;
                moved += one.size();
            }
        }

        List<One> byPlace(int from, int end) {
            List<One> all = new ArrayList<>();
            for (One one : there.values()) {
                if (one.place >= from && one.place < end) {
                    all.add(one);
                }
            }
            all.sort(Comparator.comparingInt(one -> one.place));
            return all;
        }

        int slide(int end) {
            int top = 0;
            for (One one : byPlace(0, end)) {
                if (one.holds == 0) {
                    move(one, top);
                }
                top = one.place + one.size();
            }
            return top;
        }
    }

    private static class Swept extends Heap {
        final int room;
        private final String form;
        private int lastEnd;

        Swept(int room, String form) {
            this.room = room;
            this.form = form;
        }

        @Override
        int words() {
            return room;
        }

        List<int[]> blocks() {
            List<int[]> blocks = new ArrayList<>();
            int end = 0;
            for (One one : byPlace(0, room)) {
                if (one.place > end) {
                    blocks.add(new int[] {end, one.place - end});
                }
                end = one.place + one.size();
            }
            if (end < room) {
                blocks.add(new int[] {end, room - end});
            }
            return blocks;
        }

        final int fit(int size) {
            if (form.equals("best") || form.equals("worst")) {
                return bySize(size, form.equals("best") ? 1 : -1);
            }
            for (int[] block : form.equals("first") ? blocks() : fromLastEnd()) {
                looked++;
                if (block[1] >= size) {
                    return block[0];
                }
            }
            return -1;
        }

        private List<int[]> fromLastEnd() {
            List<int[]> all = new ArrayList<>();
            for (int[] block : blocks()) {
                int end = block[0] + block[1];
                if (end > lastEnd) {
                    int from = Math.max(lastEnd, block[0]);
                    all.add(new int[] {from, end - from});
                }
            }
            for (int[] block : blocks()) {
                if (block[0] < lastEnd) {
                    all.add(block);
                }
            }
            return all;
        }

        private int bySize(int size, int sign) {
            List<int[]> all = blocks();
            looked += all.size();
            all.removeIf(block -> block[1] < size);
            all.sort(Comparator.comparingInt(block -> sign * block[1]));
            return all.isEmpty() ? -1 : all.get(0)[0];
        }

        @Override
        int room(int size) {
            int place = fit(size);
            if (place < 0) {
                clean();
                place = fit(size);
            }
            return place;
        }

        @Override
        void made(One one) {
            lastEnd = one.place + one.size();
        }

        @Override
        int clean() {
            return removeBut(reached(), 0);
        }
    }

    private static final class Slid extends Heap {
        private final int room;
        private int top;

        Slid(int room) {
            this.room = room;
        }

        @Override
        int words() {
            return room;
        }

        @Override
        int room(int size) {
            if (top + size > room) {
                clean();
            }
            return top + size > room ? -1 : top;
        }

        @Override
        void made(One one) {
            top = one.place + one.size();
        }

        @Override
        int clean() {
            int free = removeBut(reached(), 0);
            top = slide(room);
            return free;
        }

        @Override
        int top() {
            return top;
        }
    }

    private static final class Halved extends Heap {
        private final int room;
        private int half;
        private int in;

        Halved(int room) {
            this.room = room;
        }

        @Override
        int words() {
            return 2 * room;
        }

        @Override
        int room(int size) {
            if (in + size > room) {
                clean();
            }
            return in + size > room ? -1 : top();
        }

        @Override
        void made(One one) {
            in += one.size();
        }

        @Override
        int clean() {
            LinkedHashSet<One> kept = reached();
            int free = removeBut(kept, 0);
            half = 1 - half;
            in = 0;
            for (One one : kept) {
                move(one, top());
                in += one.size();
            }
            return free;
        }

        @Override
        boolean canHold(One one) {
            return false;
        }

        @Override
        int top() {
            return half * room + in;
        }
    }

    private static final class Aged extends Heap {
        private final int young;
        private final int old;
        private final int age;
        private final int card;
        private final TreeSet<Integer> dirty = new TreeSet<>();
        private int oldTop;
        private int half;
        private int in;

        Aged(int young, int old, int age, int card) {
            this.young = young;
            this.old = old;
            this.age = age;
            this.card = card;
        }

        @Override
        int words() {
            return old + 2 * young;
        }

        private boolean isYoung(One one) {
            return one.place >= old;
        }

        @Override
        int room(int size) {
            if (2 * size > young) {
                if (oldTop + size > old) {
                    major();
                }
                return oldTop + size > old ? -1 : oldTop;
            }
            if (in + size > young) {
                minor();
            }
            if (in + size > young) {
                major();
                minor();
            }
            return in + size > young ? -1 : top();
        }

        @Override
        void made(One one) {
            if (isYoung(one)) {
                in += one.size();
            } else {
                oldTop = one.place + one.size();
            }
        }

        @Override
        int clean() {
            return major() + minor();
        }

        private int major() {
            int free = removeBut(reached(), 0);
            oldTop = slide(old);
            lookForDirty();
            return free;
        }

        private boolean lacksOldRoom() {
            int sum = 0;
            for (One one : there.values()) {
                if (isYoung(one) && one.age + 1 == age) {
                    sum += one.size();
                }
            }
            return old - oldTop < sum;
        }

        private int minor() {
            int free = lacksOldRoom() ? major() : 0;
            if (lacksOldRoom()) {
                return free;
            }
            List<One> begins = begins();
            TreeMap<Integer, One> words = oldReferences();
            for (int at : words.keySet()) {
                if (dirty.contains(at / card)) {
                    begins.add(words.get(at));
                }
            }
            LinkedHashSet<One> kept = new LinkedHashSet<>();
            come(kept, begins, old);
            free += removeBut(kept, old);
            half = 1 - half;
            in = 0;
            for (One one : kept) {
                one.age++;
                if (one.age == age) {
                    move(one, oldTop);
                    oldTop += one.size();
                } else {
                    move(one, top());
                    in += one.size();
                }
            }
            lookForDirty();
            return free;
        }

        /** What the words of OLD refer to, by their PLACES. */
        private TreeMap<Integer, One> oldReferences() {
            TreeMap<Integer, One> words = new TreeMap<>();
            for (One one : byPlace(0, old)) {
                for (int i = 0; i < one.ones.length; i++) {
                    if (one.ones[i] != null) {
                        words.put(one.place + 1 + i, one.ones[i]);
                    }
                }
            }
            return words;
        }

        private void lookForDirty() {
            dirty.clear();
            TreeMap<Integer, One> words = oldReferences();
            for (int at : words.keySet()) {
                if (isYoung(words.get(at))) {
                    dirty.add(at / card);
                }
            }
        }

        @Override
        void putReference(One one, int i, One has) {
            if (has != null && isYoung(has) && !isYoung(one)) {
                dirty.add((one.place + 1 + i) / card);
            }
        }

        @Override
        boolean canHold(One one) {
            return !isYoung(one);
        }

        @Override
        int special() {
            return dirty.size();
        }

        @Override
        int top() {
            return old + half * young + in;
        }

        @Override
        int oldTop() {
            return oldTop;
        }
    }

    private static final class Counted extends Swept {
        // Those that are gone, but have words that count still.
        private final List<One> going = new ArrayList<>();

        Counted(int room, String form) {
            super(room, form);
        }

        @Override
        int countOf(One one) {
            int sum = one.holds + Collections.frequency(Arrays.asList(roots), one)
                + Collections.frequency(wishes, one);
            List<One> all = new ArrayList<>(there.values());
            all.addAll(going);
            for (One other : all) {
                sum += Collections.frequency(Arrays.asList(other.ones), one);
            }
            return sum;
        }

        @Override
        void fewer(One one) {
            if (one == null || countOf(one) > 0) {
                return;
            }
            if (one.wish) {
                grant(one);
                return;
            }
            loseWeak(one);
            there.remove(one.number);
            freed += one.size();
            going.add(one);
            for (int i = 0; i < one.ones.length; i++) {
                One had = one.ones[i];
                one.ones[i] = null;
                fewer(had);
            }
            going.remove(one);
        }
    }

    private static final class Steps extends Swept {
        private final int rate;
        private final boolean picture;
        private final List<One> grey = new ArrayList<>();
        // GREY and BLACK ones.
        private final LinkedHashSet<One> met = new LinkedHashSet<>();
        private boolean marking;

        Steps(int room, String form, int rate, boolean picture) {
            super(room, form);
            this.rate = rate;
            this.picture = picture;
        }

        private void begin() {
            marking = true;
            grey.clear();
            met.clear();
            meet(begins());
        }

        private void meet(Collection<One> ones) {
            for (One one : ones) {
                if (one != null && met.add(one)) {
                    grey.add(one);
                }
            }
        }

        private int steps(int n) {
            int done = 0;
            while (done < n && !grey.isEmpty()) {
                meet(Arrays.asList(grey.remove(0).ones));
                done++;
            }
            return done;
        }

        int stepsAndThen(int n) {
            int done = steps(n);
            endIfEmpty();
            return done;
        }

        /** Answers how many words got free. */
        private int endIfEmpty() {
            if (grey.isEmpty() && !picture) {
                meet(begins());
            }
            if (!grey.isEmpty()) {
                return 0;
            }
            marking = false;
            return removeBut(met, 0);
        }

        @Override
        int clean() {
            if (!marking) {
                begin();
            }
            int free = 0;
            while (marking) {
                steps(Integer.MAX_VALUE);
                free = endIfEmpty();
            }
            return free;
        }

        @Override
        int room(int size) {
            if (!marking && 4 * (room - used()) < room) {
                begin();
            }
            if (marking) {
                stepsAndThen(rate);
            }
            boolean wasMarking = marking;
            int place = fit(size);
            if (place < 0) {
                clean();
                place = fit(size);
            }
            if (place < 0 && wasMarking) {
                clean();
                place = fit(size);
            }
            return place;
        }

        @Override
        void made(One one) {
            super.made(one);
            if (marking) {
                met.add(one);
            }
        }

        @Override
        void changed(One had, One has) {
            if (marking && had != has) {
                meet(Collections.singletonList(picture ? had : has));
            }
        }

        @Override
        void madeStrong(One one) {
            if (marking) {
                meet(List.of(one));
            }
        }

        @Override
        int colourOf(One one) {
            return !marking || !met.contains(one) ? 0 : grey.contains(one) ? 1 : 2;
        }

        @Override
        int special() {
            return marking ? grey.size() : 0;
        }

        @Override
        boolean marks() {
            return marking;
        }
    }

    private static final class Regioned extends Heap {
        private final int size;
        private final int share;
        private final int[] tops;
        private int present;

        Regioned(int room, int size, int share) {
            this.size = size;
            this.share = share;
            tops = new int[room / size];
        }

        @Override
        int words() {
            return tops.length * size;
        }

        private List<Integer> empty() {
            List<Integer> all = new ArrayList<>();
            for (int r = 0; r < tops.length; r++) {
                if (tops[r] == 0) {
                    all.add(r);
                }
            }
            return all;
        }

        @Override
        int room(int words) {
            if (words > size) {
                return -1;
            }
            if (tops[present] + words <= size) {
                return top();
            }
            if (empty().size() < 2) {
                clean();
                if (tops[present] + words <= size) {
                    return top();
                }
            }
            if (empty().isEmpty()) {
                return -1;
            }
            present = empty().get(0);
            return top();
        }

        @Override
        void made(One one) {
            tops[present] += one.size();
        }

        @Override
        int clean() {
            int free = removeBut(reached(), 0);
            Map<Integer, Integer> keptWords = new HashMap<>();
            List<Integer> leaving = new ArrayList<>();
            for (int r = 0; r < tops.length; r++) {
                List<One> in = byPlace(r * size, r * size + size);
                int words = in.stream().mapToInt(One::size).sum();
                keptWords.put(r, words);
                if (in.isEmpty()) {
                    tops[r] = 0;
                } else if (100 * words <= share * size && r != present && in.stream().allMatch(one -> one.holds == 0)) {
                    leaving.add(r);
                }
            }
            leaving.sort(Comparator.comparing(keptWords::get));
            int target = moveAll(leaving);
            if (target >= 0) {
                present = target;
            } else if (tops[present] == 0) {
                present = empty().get(0);
            }
            return free;
        }

        /** Answers the REGION to which the last one moved; -1 if nothing moved. */
        private int moveAll(List<Integer> leaving) {
            int target = -1;
            for (int r : leaving) {
                for (One one : byPlace(r * size, r * size + size)) {
                    if (target < 0 || tops[target] + one.size() > size) {
                        if (empty().isEmpty()) {
                            return target;
                        }
                        target = empty().get(0);
                    }
                    move(one, target * size + tops[target]);
                    tops[target] += one.size();
                }
                tops[r] = 0;
            }
            return target;
        }

        @Override
        int special() {
            return empty().size();
        }

        @Override
        int top() {
            return present * size + tops[present];
        }

        @Override
        int oldTop() {
            return present;
        }
    }
}
