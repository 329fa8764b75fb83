/**
 * One object and the calls on it, each with the answer that is due. A run of more calls than the document
 * allows is itself told as wrong, since nothing is due of it.
 */
final class Run {
    private static final int MOST_CALLS = 512;

    private final Due due;
    private final AppendOnlyTree tree;
    private int calls = 0;

    Run(Due due, int segments) {
        this.due = due;
        tree = new AppendOnlyTree(segments);
    }

    void create(int dir, int name, boolean directory, int want) {
        is("create(" + dir + ", " + name + ", " + directory + ")", tree.create(dir, name, directory), want);
    }

    void link(int dir, int name, int file, int want) {
        is("link(" + dir + ", " + name + ", " + file + ")", tree.link(dir, name, file), want);
    }

    void remove(int dir, int name, int want) {
        is("remove(" + dir + ", " + name + ")", tree.remove(dir, name), want);
    }

    void rename(int dir, int name, int to, int toName, int want) {
        is("rename(" + dir + ", " + name + ", " + to + ", " + toName + ")", tree.rename(dir, name, to, toName), want);
    }

    void write(int file, int place, int value, int want) {
        is("write(" + file + ", " + place + ", " + value + ")", tree.write(file, place, value), want);
    }

    void cut(int file, int size, int want) {
        is("cut(" + file + ", " + size + ")", tree.cut(file, size), want);
    }

    void sync(int want) {
        is("sync()", tree.sync(), want);
    }

    void crash(int keep, int want) {
        is("crash(" + keep + ")", tree.crash(keep), want);
    }

    void find(int dir, int name, int want) {
        is("find(" + dir + ", " + name + ")", tree.find(dir, name), want);
    }

    void entry(int dir, int k, int want) {
        is("entry(" + dir + ", " + k + ")", tree.entry(dir, k), want);
    }

    void read(int file, int place, long want) {
        is("read(" + file + ", " + place + ")", tree.read(file, place), want);
    }

    void tell(int node, int what, int want) {
        is("tell(" + node + ", " + what + ")", tree.tell(node, what), want);
    }

    void count(int what, int want) {
        is("count(" + what + ")", tree.count(what), want);
    }

    /** LIVE, KEPT, changes, syncs and nodes, in the order of count. */
    void counts(int live, int kept, int changes, int syncs, int nodes) {
        count(0, live);
        count(1, kept);
        count(2, changes);
        count(3, syncs);
        count(4, nodes);
    }

    int count(int what) {
        called();
        return tree.count(what);
    }

    int crash(int keep) {
        called();
        return tree.crash(keep);
    }

    int calls() {
        return calls;
    }

    /** Whatever can be asked of the object, as one text. */
    String look() {
        StringBuilder text = new StringBuilder("counts");
        for (int what = 0; what <= 5; what++) {
            text.append(' ').append(count(what));
        }
        return text.append(nodes()).toString();
    }

    /** The tree alone: every node that is there, with its entries or ints. */
    String nodes() {
        StringBuilder text = new StringBuilder();
        for (int node = 0; node <= 15; node++) {
            int kind = ask(tree.tell(node, 0));
            if (kind != 0) {
                text.append("; node ").append(node).append(" kind ").append(kind)
                        .append(" links ").append(ask(tree.tell(node, 2)))
                        .append(kind == 1 ? " ints" : " entries")
                        .append(kind == 1 ? ints(node) : entries(node));
            }
        }
        return text.toString();
    }

    private String entries(int dir) {
        StringBuilder text = new StringBuilder();
        int size = ask(tree.tell(dir, 1));
        for (int k = 0; k < size; k++) {
            int name = ask(tree.entry(dir, k));
            text.append(' ').append(name).append(':').append(ask(tree.find(dir, name)));
        }
        return text.toString();
    }

    private String ints(int file) {
        StringBuilder text = new StringBuilder();
        int size = ask(tree.tell(file, 1));
        for (int place = 0; place < size; place++) {
            called();
            text.append(' ').append(tree.read(file, place));
        }
        return text.toString();
    }

    private int ask(int answer) {
        called();
        return answer;
    }

    private void is(String call, long got, long want) {
        called();
        due.is(call, got, want);
    }

    private void called() {
        calls++;
        if (calls > MOST_CALLS) {
            due.is("the number of calls of one object", calls, MOST_CALLS);
        }
    }
}
