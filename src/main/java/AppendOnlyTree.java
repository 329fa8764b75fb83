/** Files and directories kept by appending changes to a log; ../shared/DOC.md has the promises. */
public final class AppendOnlyTree {
    public static final int DONE = 0;
    public static final int REFUSED = -1;
    public static final int ABSENT = -2;
    public static final int EXISTS = -3;
    public static final int NOT_EMPTY = -4;
    public static final int FULL = -5;
    public static final int NO_ROOM = -6;
    public static final long NONE = 1000000000000L;

    private static final int NODES = 16;
    private static final int NAMES = 32;
    private static final int MOST_ENTRIES = 8;
    private static final int MOST_INTS = 8;

    private static final int ROOT = 0;
    // No entry ever has the root, so the root's number is free to mean "no node".
    private static final int NO_NODE = 0;

    private static final int NOT_THERE = 0;
    private static final int FILE = 1;
    private static final int DIRECTORY = 2;

    private static final int LEAST_SEGMENTS = 4;
    private static final int MOST_SEGMENTS = 8;
    private static final int SEGMENT_BLOCKS = 8;
    private static final int SPARE_SEGMENTS = 2;
    private static final int SPARE_BLOCKS = 8;

    private static final int CREATE = 0;
    private static final int LINK = 1;
    private static final int REMOVE = 2;
    private static final int RENAME = 3;
    private static final int WRITE = 4;
    private static final int CUT = 5;

    private final int limit;
    private final Tree tree;
    // The tree as of the last sync: a crash redoes the log's first changes on it.
    private final Tree safe;
    private final Log log;
    private int kept;
    private int syncs;

    public AppendOnlyTree(int segments) {
        int clamped = Math.max(LEAST_SEGMENTS, Math.min(MOST_SEGMENTS, segments));
        limit = SEGMENT_BLOCKS * (clamped - SPARE_SEGMENTS);
        tree = new Tree();
        safe = new Tree();
        log = new Log();
        kept = tree.live();
        syncs = 0;
    }

    public int create(int dir, int name, boolean directory) {
        if (!isNode(dir) || !isName(name)) {
            return REFUSED;
        }
        if (!tree.isDirectory(dir)) {
            return ABSENT;
        }
        if (tree.target(dir, name) != NO_NODE) {
            return EXISTS;
        }
        int node = tree.leastFreeNode();
        if (tree.size(dir) >= MOST_ENTRIES || node == NO_NODE) {
            return FULL;
        }
        int cost = costOf(2, 0);
        if (!makesRoom(cost, 1)) {
            return NO_ROOM;
        }
        perform(cost, CREATE, dir, name, directory ? DIRECTORY : FILE, 0);
        return node;
    }

    public int link(int dir, int name, int file) {
        if (!isNode(dir) || !isName(name) || !isNode(file)) {
            return REFUSED;
        }
        if (!tree.isDirectory(dir) || !tree.isFile(file)) {
            return ABSENT;
        }
        if (tree.target(dir, name) != NO_NODE) {
            return EXISTS;
        }
        if (tree.size(dir) >= MOST_ENTRIES) {
            return FULL;
        }
        int cost = costOf(2, 0);
        if (!makesRoom(cost, 0)) {
            return NO_ROOM;
        }
        perform(cost, LINK, dir, name, file, 0);
        return DONE;
    }

    public int remove(int dir, int name) {
        if (!isNode(dir) || !isName(name)) {
            return REFUSED;
        }
        if (!tree.isDirectory(dir) || tree.target(dir, name) == NO_NODE) {
            return ABSENT;
        }
        int node = tree.target(dir, name);
        if (tree.isDirectory(node) && tree.size(node) > 0) {
            return NOT_EMPTY;
        }
        boolean stays = tree.links(node) > 1;
        int cost = costOf(stays ? 2 : 1, 0);
        if (!makesRoom(cost, stays ? 0 : -tree.blocks(node))) {
            return NO_ROOM;
        }
        perform(cost, REMOVE, dir, name, 0, 0);
        return DONE;
    }

    public int rename(int dir, int name, int to, int toName) {
        if (!isNode(dir) || !isName(name) || !isNode(to) || !isName(toName)) {
            return REFUSED;
        }
        if (!tree.isDirectory(dir) || !tree.isDirectory(to) || tree.target(dir, name) == NO_NODE) {
            return ABSENT;
        }
        if (tree.target(to, toName) != NO_NODE) {
            return EXISTS;
        }
        if (tree.liesIn(to, tree.target(dir, name))) {
            return REFUSED;
        }
        if (to != dir && tree.size(to) >= MOST_ENTRIES) {
            return FULL;
        }
        int cost = costOf(to == dir ? 1 : 2, 0);
        if (!makesRoom(cost, 0)) {
            return NO_ROOM;
        }
        perform(cost, RENAME, dir, name, to, toName);
        return DONE;
    }

    public int write(int file, int place, int value) {
        if (!isNode(file) || place < 0 || place >= MOST_INTS) {
            return REFUSED;
        }
        if (!tree.isFile(file)) {
            return ABSENT;
        }
        if (place > tree.size(file)) {
            return REFUSED;
        }
        int cost = costOf(1, 1);
        if (!makesRoom(cost, place == tree.size(file) ? 1 : 0)) {
            return NO_ROOM;
        }
        perform(cost, WRITE, file, place, value, 0);
        return DONE;
    }

    public int cut(int file, int size) {
        if (!isNode(file) || size < 0 || size > MOST_INTS) {
            return REFUSED;
        }
        if (!tree.isFile(file)) {
            return ABSENT;
        }
        if (size > tree.size(file)) {
            return REFUSED;
        }
        int cost = costOf(1, 0);
        if (!makesRoom(cost, size - tree.size(file))) {
            return NO_ROOM;
        }
        perform(cost, CUT, file, size, 0, 0);
        return DONE;
    }

    public int sync() {
        countedSync();
        return kept;
    }

    public int crash(int keep) {
        int redone = Math.max(0, Math.min(keep, log.length()));
        for (int k = 0; k < redone; k++) {
            log.redo(k, safe);
        }
        tree.copyFrom(safe);
        startAfresh();
        return redone;
    }

    public int find(int dir, int name) {
        if (!isNode(dir) || !isName(name)) {
            return REFUSED;
        }
        if (!tree.isDirectory(dir) || tree.target(dir, name) == NO_NODE) {
            return ABSENT;
        }
        return tree.target(dir, name);
    }

    public int entry(int dir, int k) {
        if (!isNode(dir)) {
            return REFUSED;
        }
        if (!tree.isDirectory(dir)) {
            return ABSENT;
        }
        return tree.nthName(dir, k);
    }

    public long read(int file, int place) {
        if (!isNode(file) || !tree.isFile(file)) {
            return NONE;
        }
        if (place < 0 || place >= tree.size(file)) {
            return NONE;
        }
        return tree.value(file, place);
    }

    public int tell(int node, int what) {
        if (!isNode(node) || what < 0 || what > 2) {
            return REFUSED;
        }
        if (what == 0) {
            return tree.kind(node);
        }
        if (tree.kind(node) == NOT_THERE) {
            return ABSENT;
        }
        return what == 1 ? tree.size(node) : tree.links(node);
    }

    public int count(int what) {
        switch (what) {
            case 0:
                return tree.live();
            case 1:
                return kept;
            case 2:
                return log.length();
            case 3:
                return syncs;
            case 4:
                return tree.nodesThere();
            case 5:
                return limit;
            default:
                return REFUSED;
        }
    }

    private static boolean isNode(int number) {
        return number >= 0 && number < NODES;
    }

    private static boolean isName(int number) {
        return number >= 0 && number < NAMES;
    }

    private static int costOf(int changedNodes, int setInts) {
        return 1 + changedNodes + setInts;
    }

    // The sync comes before the look at LIVE and stays made, even if there is no room then.
    private boolean makesRoom(int cost, int growth) {
        if (kept + cost > limit) {
            countedSync();
        }
        return tree.live() + growth <= limit - SPARE_BLOCKS;
    }

    // Redone from the log, so that a crash does each change just as it was done here.
    private void perform(int cost, int kind, int a, int b, int c, int d) {
        log.append(kind, a, b, c, d);
        log.redo(log.length() - 1, tree);
        kept += cost;
    }

    private void countedSync() {
        safe.copyFrom(tree);
        startAfresh();
        syncs++;
    }

    private void startAfresh() {
        log.clear();
        kept = tree.live();
    }

    /** The changes done since the last sync, in their order. */
    private static final class Log {
        // Far above need: LIMIT is at most 48, and a change costs at least 2 of it.
        private static final int MOST_CHANGES = 48;
        private static final int WIDTH = 5;

        private final int[] rows;
        private int length;

        Log() {
            rows = new int[MOST_CHANGES * WIDTH];
            length = 0;
        }

        int length() {
            return length;
        }

        void clear() {
            length = 0;
        }

        void append(int kind, int a, int b, int c, int d) {
            if (length >= MOST_CHANGES) {
                return;
            }
            int start = length * WIDTH;
            rows[start] = kind;
            rows[start + 1] = a;
            rows[start + 2] = b;
            rows[start + 3] = c;
            rows[start + 4] = d;
            length++;
        }

        void redo(int k, Tree tree) {
            if (k < 0 || k >= length) {
                return;
            }
            int start = k * WIDTH;
            int a = rows[start + 1];
            int b = rows[start + 2];
            int c = rows[start + 3];
            int d = rows[start + 4];
            switch (rows[start]) {
                case CREATE:
                    tree.addNode(a, b, c);
                    break;
                case LINK:
                    tree.addEntry(a, b, c);
                    break;
                case REMOVE:
                    tree.dropEntry(a, b);
                    break;
                case RENAME:
                    tree.moveEntry(a, b, c, d);
                    break;
                case WRITE:
                    tree.setInt(a, b, c);
                    break;
                default:
                    tree.setSize(a, b);
                    break;
            }
        }
    }

    /** Nodes with their entries and ints; its callers have looked at every number and case before. */
    private static final class Tree {
        private final int[] kinds;
        // Of a file the number of its ints, of a directory that of its entries.
        private final int[] sizes;
        private final int[] links;
        // Where a node's newest entry is: for a directory, which has only one, where it lies.
        private final int[] homes;
        private final int[] targets;
        private final int[] values;

        Tree() {
            kinds = new int[NODES];
            sizes = new int[NODES];
            links = new int[NODES];
            homes = new int[NODES];
            targets = new int[NODES * NAMES];
            values = new int[NODES * MOST_INTS];
            kinds[ROOT] = DIRECTORY;
        }

        void copyFrom(Tree other) {
            System.arraycopy(other.kinds, 0, kinds, 0, kinds.length);
            System.arraycopy(other.sizes, 0, sizes, 0, sizes.length);
            System.arraycopy(other.links, 0, links, 0, links.length);
            System.arraycopy(other.homes, 0, homes, 0, homes.length);
            System.arraycopy(other.targets, 0, targets, 0, targets.length);
            System.arraycopy(other.values, 0, values, 0, values.length);
        }

        int kind(int node) {
            return kinds[node];
        }

        boolean isFile(int node) {
            return kinds[node] == FILE;
        }

        boolean isDirectory(int node) {
            return kinds[node] == DIRECTORY;
        }

        int size(int node) {
            return sizes[node];
        }

        int links(int node) {
            return links[node];
        }

        int target(int dir, int name) {
            return targets[dir * NAMES + name];
        }

        int value(int file, int place) {
            return values[file * MOST_INTS + place];
        }

        int nthName(int dir, int n) {
            int before = 0;
            for (int name = 0; name < NAMES; name++) {
                if (target(dir, name) != NO_NODE) {
                    if (before == n) {
                        return name;
                    }
                    before++;
                }
            }
            return REFUSED;
        }

        int leastFreeNode() {
            for (int node = 0; node < NODES; node++) {
                if (kinds[node] == NOT_THERE) {
                    return node;
                }
            }
            return NO_NODE;
        }

        int nodesThere() {
            int there = 0;
            for (int node = 0; node < NODES; node++) {
                if (kinds[node] != NOT_THERE) {
                    there++;
                }
            }
            return there;
        }

        int blocks(int node) {
            if (kinds[node] == NOT_THERE) {
                return 0;
            }
            return isFile(node) ? 1 + sizes[node] : 1;
        }

        int live() {
            int sum = 0;
            for (int node = 0; node < NODES; node++) {
                sum += blocks(node);
            }
            return sum;
        }

        boolean liesIn(int dir, int other) {
            // The root is its own home, so the way up may go on there until the steps are used up.
            int at = dir;
            for (int step = 0; step < NODES; step++) {
                if (at == other) {
                    return true;
                }
                at = homes[at];
            }
            return false;
        }

        void addNode(int dir, int name, int kind) {
            int node = leastFreeNode();
            kinds[node] = kind;
            addEntry(dir, name, node);
        }

        void addEntry(int dir, int name, int node) {
            targets[dir * NAMES + name] = node;
            sizes[dir]++;
            links[node]++;
            homes[node] = dir;
        }

        void dropEntry(int dir, int name) {
            int node = takeEntry(dir, name);
            if (links[node] == 0) {
                kinds[node] = NOT_THERE;
                sizes[node] = 0;
            }
        }

        void moveEntry(int dir, int name, int to, int toName) {
            int node = takeEntry(dir, name);
            addEntry(to, toName, node);
        }

        void setInt(int file, int place, int value) {
            values[file * MOST_INTS + place] = value;
            sizes[file] = Math.max(sizes[file], place + 1);
        }

        void setSize(int file, int size) {
            sizes[file] = size;
        }

        private int takeEntry(int dir, int name) {
            int node = target(dir, name);
            targets[dir * NAMES + name] = NO_NODE;
            sizes[dir]--;
            links[node]--;
            return node;
        }
    }
}
