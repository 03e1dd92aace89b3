/**
 * Models of rows of names, made of parts by rows, choices and how often; whether such a model is
 * deterministic; rows of names that are read name by name, with what can come next.
 */
public final class RowModels {
    public static final int NONE = -1;

    private static final int LAST_NAME = 1000;
    private static final int MOST_PARTS = 40;
    private static final int MOST_OCCURRENCES = 255;
    private static final int MOST_MODELS = 50;
    private static final int MOST_READ = 1000;

    private static final int MAY_BE = 1;
    private static final int SO_OFTEN = 2;
    private static final int SOME_TIMES = 3;

    // The end of a row counts as one occurrence more, of no name: that a row may end is then one
    // of the things that can come next, and needs no record of its own.
    private static final int END = MOST_OCCURRENCES;

    private final Draft draft;
    private final Model[] models;
    private final Reading reading;
    private int modelCount;

    public RowModels() {
        draft = new Draft();
        models = new Model[MOST_MODELS];
        reading = new Reading();
        modelCount = 0;
    }

    public int name(int n) {
        return isName(n) && draft.addName(n) ? draft.partCount : NONE;
    }

    public int row() {
        return draft.joinToRow() ? draft.partCount : NONE;
    }

    public int choice() {
        return draft.joinToChoice() ? draft.partCount : NONE;
    }

    public boolean often(int how) {
        return draft.repeatLast(how);
    }

    public int clear() {
        int had = draft.partCount;
        draft.dropAll();
        return had;
    }

    public int make() {
        int number = modelCount;
        if (draft.partCount != 1 || number < 0 || number >= models.length) {
            return NONE;
        }
        models[number] = draft.toModel();
        modelCount = number + 1;
        draft.dropAll();
        return number;
    }

    public int size(int m) {
        Model model = modelAt(m);
        return model == null ? NONE : model.entries.length;
    }

    public boolean isDeterministic(int m) {
        Model model = modelAt(m);
        return model != null && model.deterministic;
    }

    public boolean begin(int m) {
        Model model = modelAt(m);
        if (model == null) {
            return false;
        }
        reading.startWith(model);
        return true;
    }

    public int read(int n) {
        return isName(n) && reading.take(n) ? reading.count : NONE;
    }

    public boolean isWhole() {
        return reading.mayEnd();
    }

    public boolean can(int n) {
        return reading.mayTake(n);
    }

    public int next(int k) {
        return reading.offer(k);
    }

    public int back() {
        return reading.takeBack();
    }

    private static boolean isName(int n) {
        return n >= 1 && n <= LAST_NAME;
    }

    /** The model of that number, or null when there is none such. */
    private Model modelAt(int m) {
        return m >= 0 && m < modelCount && m < models.length ? models[m] : null;
    }

    /** A numbered row of sets of occurrences; a set or an occurrence out of range is in none. */
    private static final class Sets {
        private static final int WORDS = 4;
        private static final int WORD_SHIFT = 6;
        private static final int MOST_SETS = MOST_READ + 1;

        private final long[] words;

        Sets(int count) {
            words = new long[Math.max(0, Math.min(count, MOST_SETS)) * WORDS];
        }

        private boolean hasSet(int set) {
            return set >= 0 && set < words.length / WORDS;
        }

        private boolean hasPlace(int set, int occurrence) {
            return hasSet(set) && occurrence >= 0 && occurrence <= END;
        }

        boolean holds(int set, int occurrence) {
            if (!hasPlace(set, occurrence)) {
                return false;
            }
            return (words[set * WORDS + (occurrence >> WORD_SHIFT)] >>> occurrence & 1L) != 0L;
        }

        void add(int set, int occurrence) {
            if (hasPlace(set, occurrence)) {
                words[set * WORDS + (occurrence >> WORD_SHIFT)] |= 1L << occurrence;
            }
        }

        void addAll(int set, Sets from, int fromSet) {
            if (hasSet(set) && from.hasSet(fromSet)) {
                for (int w = 0; w < WORDS; w++) {
                    words[set * WORDS + w] |= from.words[fromSet * WORDS + w];
                }
            }
        }

        void removeAll(int set) {
            if (hasSet(set)) {
                for (int w = 0; w < WORDS; w++) {
                    words[set * WORDS + w] = 0L;
                }
            }
        }
    }

    /**
     * The parts that are joined. No tree is kept of a part: which occurrences can be first and last
     * in its rows, whether it makes the row of no name, and what can follow each occurrence say all
     * that later calls ask, and cost no depth however often a part is repeated.
     */
    private static final class Draft {
        private final int[] names = new int[MOST_OCCURRENCES];
        private final Sets followers = new Sets(MOST_OCCURRENCES);
        private final Sets firsts = new Sets(MOST_PARTS);
        private final Sets lasts = new Sets(MOST_PARTS);
        private final boolean[] mayBeNone = new boolean[MOST_PARTS];
        private int nameCount;
        private int partCount;

        private boolean hasPart(int part) {
            return part >= 0 && part < partCount && part < mayBeNone.length;
        }

        boolean addName(int n) {
            int occurrence = nameCount;
            int part = partCount;
            if (part < 0 || part >= mayBeNone.length || occurrence < 0 || occurrence >= names.length) {
                return false;
            }
            names[occurrence] = n;
            followers.removeAll(occurrence);
            firsts.removeAll(part);
            firsts.add(part, occurrence);
            lasts.removeAll(part);
            lasts.add(part, occurrence);
            mayBeNone[part] = false;
            nameCount = occurrence + 1;
            partCount = part + 1;
            return true;
        }

        boolean joinToRow() {
            int second = partCount - 1;
            int first = second - 1;
            if (!hasPart(first) || !hasPart(second)) {
                return false;
            }
            letFollow(first, second);
            if (mayBeNone[first]) {
                firsts.addAll(first, firsts, second);
            }
            if (!mayBeNone[second]) {
                lasts.removeAll(first);
            }
            lasts.addAll(first, lasts, second);
            mayBeNone[first] = mayBeNone[first] && mayBeNone[second];
            partCount = second;
            return true;
        }

        boolean joinToChoice() {
            int second = partCount - 1;
            int first = second - 1;
            if (!hasPart(first) || !hasPart(second)) {
                return false;
            }
            firsts.addAll(first, firsts, second);
            lasts.addAll(first, lasts, second);
            mayBeNone[first] = mayBeNone[first] || mayBeNone[second];
            partCount = second;
            return true;
        }

        boolean repeatLast(int how) {
            int part = partCount - 1;
            if (!hasPart(part) || how < MAY_BE || how > SOME_TIMES) {
                return false;
            }
            if (how == SO_OFTEN || how == SOME_TIMES) {
                letFollow(part, part);
            }
            if (how == MAY_BE || how == SO_OFTEN) {
                mayBeNone[part] = true;
            }
            return true;
        }

        private void letFollow(int part, int behind) {
            for (int i = 0; i < nameCount; i++) {
                if (lasts.holds(part, i)) {
                    followers.addAll(i, firsts, behind);
                }
            }
        }

        void dropAll() {
            nameCount = 0;
            partCount = 0;
        }

        /** The first part as a model; the draft stays as it is. */
        Model toModel() {
            int[] entries = new int[Math.max(nameCount, 0)];
            Sets comes = new Sets(nameCount + 1);
            for (int i = 0; i < entries.length && i < names.length; i++) {
                entries[i] = Model.entry(names[i], i);
                comes.addAll(i, followers, i);
                if (lasts.holds(0, i)) {
                    comes.add(i, END);
                }
            }
            comes.addAll(nameCount, firsts, 0);
            if (mayBeNone[0]) {
                comes.add(nameCount, END);
            }
            Model.sort(entries);
            return new Model(entries, comes);
        }
    }

    /** A model that is made: its occurrences in the order of their names, and what can follow each. */
    private static final class Model {
        private static final int OCCURRENCE_BITS = 8;
        private static final int OCCURRENCE_MASK = 255;

        private final int[] entries;
        // Set i is what can follow occurrence i; the set behind all these is what can come first.
        private final Sets followers;
        private final boolean deterministic;

        Model(int[] sortedEntries, Sets comes) {
            entries = sortedEntries;
            followers = comes;
            deterministic = !hasTwinsAnywhere(sortedEntries, comes);
        }

        // A name and its occurrence stand in one number, so that sorting by name needs no second row.
        static int entry(int n, int occurrence) {
            return n << OCCURRENCE_BITS | occurrence;
        }

        private static int nameOf(int entry) {
            return entry >> OCCURRENCE_BITS;
        }

        private static int occurrenceOf(int entry) {
            return entry & OCCURRENCE_MASK;
        }

        static void sort(int[] entries) {
            for (int i = 1; i < entries.length; i++) {
                int moved = entries[i];
                int at = i;
                while (at > 0 && entries[at - 1] > moved) {
                    entries[at] = entries[at - 1];
                    at--;
                }
                entries[at] = moved;
            }
        }

        // Each occurrence stands in some row that the model makes, and what can follow a row of
        // occurrences depends on its last one alone: so these sets are all there is to look at.
        private static boolean hasTwinsAnywhere(int[] entries, Sets followers) {
            for (int set = 0; set <= entries.length; set++) {
                if (hasTwins(entries, followers, set)) {
                    return true;
                }
            }
            return false;
        }

        /** Whether a set holds two occurrences of the same name. */
        private static boolean hasTwins(int[] entries, Sets sets, int set) {
            int before = 0;
            for (int i = 0; i < entries.length; i++) {
                if (sets.holds(set, occurrenceOf(entries[i]))) {
                    if (nameOf(entries[i]) == before) {
                        return true;
                    }
                    before = nameOf(entries[i]);
                }
            }
            return false;
        }

        void putFirst(Sets comes, int set) {
            comes.removeAll(set);
            comes.addAll(set, followers, entries.length);
        }

        /** Puts into the set behind this one what can come when n was taken from this one. */
        void putBehind(Sets comes, int set, int n) {
            comes.removeAll(set + 1);
            for (int i = 0; i < entries.length; i++) {
                int occurrence = occurrenceOf(entries[i]);
                if (nameOf(entries[i]) == n && comes.holds(set, occurrence)) {
                    comes.addAll(set + 1, followers, occurrence);
                }
            }
        }

        boolean hasName(Sets comes, int set, int n) {
            for (int i = 0; i < entries.length; i++) {
                if (nameOf(entries[i]) == n && comes.holds(set, occurrenceOf(entries[i]))) {
                    return true;
                }
            }
            return false;
        }

        /** The k-th of the names that a set holds, each counted once; NONE when there is none such. */
        int nameAt(Sets comes, int set, int k) {
            int found = -1;
            int before = 0;
            for (int i = 0; i < entries.length; i++) {
                int n = nameOf(entries[i]);
                if (n != before && comes.holds(set, occurrenceOf(entries[i]))) {
                    before = n;
                    found++;
                    if (found == k) {
                        return n;
                    }
                }
            }
            return NONE;
        }
    }

    /** What was read; what can come is kept for every length, so that a name can be taken back. */
    private static final class Reading {
        private final int[] names = new int[MOST_READ];
        private final Sets comes = new Sets(MOST_READ + 1);
        private Model model;
        private int count;

        void startWith(Model begun) {
            model = begun;
            count = 0;
            begun.putFirst(comes, 0);
        }

        boolean take(int n) {
            if (model == null || count < 0 || count >= names.length) {
                return false;
            }
            names[count] = n;
            model.putBehind(comes, count, n);
            count++;
            return true;
        }

        boolean mayEnd() {
            return model != null && comes.holds(count, END);
        }

        boolean mayTake(int n) {
            return model != null && model.hasName(comes, count, n);
        }

        int offer(int k) {
            return model == null ? NONE : model.nameAt(comes, count, k);
        }

        int takeBack() {
            int last = count - 1;
            if (model == null || last < 0 || last >= names.length) {
                return NONE;
            }
            count = last;
            return names[last];
        }
    }
}
