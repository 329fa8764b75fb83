import java.util.ArrayList;
import java.util.HashSet;
import java.util.List;
import java.util.Set;
import java.util.TreeMap;

/**
 * The document's words as plainly as they can be run: a whole copy of the tree after each change, each change
 * tried on a copy first, links and parents searched for, and the cost counted from the nodes that were touched.
 */
final class Model {
    private static final class Node {
        final boolean directory;
        final TreeMap<Integer, Integer> entries = new TreeMap<>();
        final List<Integer> ints = new ArrayList<>();

        Node(boolean directory) {
            this.directory = directory;
        }

        Node copy() {
            Node copy = new Node(directory);
            copy.entries.putAll(entries);
            copy.ints.addAll(ints);
            return copy;
        }
    }

    private final int limit;
    private TreeMap<Integer, Node> nodes = new TreeMap<>();
    private final List<TreeMap<Integer, Node>> since = new ArrayList<>();
    private int kept = 1;
    private int syncs = 0;

    private TreeMap<Integer, Node> next;
    private final Set<Integer> touched = new HashSet<>();
    private int intsSet;

    Model(int segments) {
        limit = 8 * ((segments < 4 ? 4 : segments > 8 ? 8 : segments) - 2);
        nodes.put(0, new Node(true));
        since.add(copy(nodes));
    }

    int create(int dir, int name, boolean directory) {
        if (outside(dir, 15) || outside(name, 31)) return AppendOnlyTree.REFUSED;
        if (!isDirectory(dir)) return AppendOnlyTree.ABSENT;
        if (has(dir, name)) return AppendOnlyTree.EXISTS;
        if (entries(dir).size() == 8 || nodes.size() == 16) return AppendOnlyTree.FULL;
        int node = 0;
        while (nodes.containsKey(node)) node++;
        begin();
        next.put(node, new Node(directory));
        next.get(dir).entries.put(name, node);
        touch(dir, node);
        return end(node);
    }

    int link(int dir, int name, int file) {
        if (outside(dir, 15) || outside(name, 31) || outside(file, 15)) return AppendOnlyTree.REFUSED;
        if (!isDirectory(dir) || !isFile(file)) return AppendOnlyTree.ABSENT;
        if (has(dir, name)) return AppendOnlyTree.EXISTS;
        if (entries(dir).size() == 8) return AppendOnlyTree.FULL;
        begin();
        next.get(dir).entries.put(name, file);
        touch(dir, file);
        return end(AppendOnlyTree.DONE);
    }

    int remove(int dir, int name) {
        if (outside(dir, 15) || outside(name, 31)) return AppendOnlyTree.REFUSED;
        if (!isDirectory(dir) || !has(dir, name)) return AppendOnlyTree.ABSENT;
        int node = entries(dir).get(name);
        if (isDirectory(node) && !entries(node).isEmpty()) return AppendOnlyTree.NOT_EMPTY;
        begin();
        next.get(dir).entries.remove(name);
        if (links(next, node) == 0) next.remove(node);
        touch(dir, node);
        return end(AppendOnlyTree.DONE);
    }

    int rename(int dir, int name, int to, int toName) {
        if (outside(dir, 15) || outside(name, 31)) return AppendOnlyTree.REFUSED;
        if (outside(to, 15) || outside(toName, 31)) return AppendOnlyTree.REFUSED;
        if (!isDirectory(dir) || !isDirectory(to) || !has(dir, name)) return AppendOnlyTree.ABSENT;
        if (has(to, toName)) return AppendOnlyTree.EXISTS;
        int node = entries(dir).get(name);
        if (isDirectory(node) && liesIn(to, node)) return AppendOnlyTree.REFUSED;
        if (to != dir && entries(to).size() == 8) return AppendOnlyTree.FULL;
        begin();
        next.get(dir).entries.remove(name);
        next.get(to).entries.put(toName, node);
        touch(dir, to);
        return end(AppendOnlyTree.DONE);
    }

    int write(int file, int place, int value) {
        if (outside(file, 15) || outside(place, 7)) return AppendOnlyTree.REFUSED;
        if (!isFile(file)) return AppendOnlyTree.ABSENT;
        if (place > nodes.get(file).ints.size()) return AppendOnlyTree.REFUSED;
        begin();
        List<Integer> ints = next.get(file).ints;
        if (place == ints.size()) ints.add(value);
        else ints.set(place, value);
        intsSet = 1;
        touch(file, file);
        return end(AppendOnlyTree.DONE);
    }

    int cut(int file, int size) {
        if (outside(file, 15) || outside(size, 8)) return AppendOnlyTree.REFUSED;
        if (!isFile(file)) return AppendOnlyTree.ABSENT;
        if (size > nodes.get(file).ints.size()) return AppendOnlyTree.REFUSED;
        begin();
        List<Integer> ints = next.get(file).ints;
        ints.subList(size, ints.size()).clear();
        touch(file, file);
        return end(AppendOnlyTree.DONE);
    }

    int sync() {
        syncs++;
        startAfresh();
        return kept;
    }

    int crash(int keep) {
        int changes = since.size() - 1;
        int redone = keep < 0 ? 0 : keep > changes ? changes : keep;
        nodes = since.get(redone);
        startAfresh();
        return redone;
    }

    int find(int dir, int name) {
        if (outside(dir, 15) || outside(name, 31)) return AppendOnlyTree.REFUSED;
        if (!isDirectory(dir) || !has(dir, name)) return AppendOnlyTree.ABSENT;
        return entries(dir).get(name);
    }

    int entry(int dir, int k) {
        if (outside(dir, 15)) return AppendOnlyTree.REFUSED;
        if (!isDirectory(dir)) return AppendOnlyTree.ABSENT;
        if (k < 0 || k >= entries(dir).size()) return AppendOnlyTree.REFUSED;
        return new ArrayList<>(entries(dir).keySet()).get(k);
    }

    long read(int file, int place) {
        if (!isFile(file) || place < 0 || place >= nodes.get(file).ints.size()) return AppendOnlyTree.NONE;
        return nodes.get(file).ints.get(place);
    }

    int tell(int node, int what) {
        if (outside(node, 15) || outside(what, 2)) return AppendOnlyTree.REFUSED;
        if (what == 0) return isFile(node) ? 1 : isDirectory(node) ? 2 : 0;
        if (!nodes.containsKey(node)) return AppendOnlyTree.ABSENT;
        if (what == 1) return isFile(node) ? nodes.get(node).ints.size() : entries(node).size();
        return links(nodes, node);
    }

    int count(int what) {
        int[] counts = {live(nodes), kept, since.size() - 1, syncs, nodes.size(), limit};
        return outside(what, 5) ? AppendOnlyTree.REFUSED : counts[what];
    }

    private static boolean outside(int number, int most) {
        return number < 0 || number > most;
    }

    private boolean isFile(int node) {
        return nodes.containsKey(node) && !nodes.get(node).directory;
    }

    private boolean isDirectory(int node) {
        return nodes.containsKey(node) && nodes.get(node).directory;
    }

    private TreeMap<Integer, Integer> entries(int dir) {
        return nodes.get(dir).entries;
    }

    private boolean has(int dir, int name) {
        return entries(dir).containsKey(name);
    }

    private boolean liesIn(int dir, int other) {
        if (dir == other) return true;
        for (int parent : nodes.keySet()) {
            if (entries(parent).containsValue(dir)) return liesIn(parent, other);
        }
        return false;
    }

    private static int links(TreeMap<Integer, Node> tree, int node) {
        int links = 0;
        for (Node dir : tree.values()) {
            for (int target : dir.entries.values()) {
                if (target == node) links++;
            }
        }
        return links;
    }

    private static int live(TreeMap<Integer, Node> tree) {
        int live = 0;
        for (Node node : tree.values()) live += 1 + node.ints.size();
        return live;
    }

    private static TreeMap<Integer, Node> copy(TreeMap<Integer, Node> tree) {
        TreeMap<Integer, Node> copy = new TreeMap<>();
        for (int node : tree.keySet()) copy.put(node, tree.get(node).copy());
        return copy;
    }

    private void begin() {
        next = copy(nodes);
        touched.clear();
        intsSet = 0;
    }

    private void touch(int one, int other) {
        touched.add(one);
        touched.add(other);
    }

    private int end(int answer) {
        touched.retainAll(next.keySet());
        int cost = 1 + touched.size() + intsSet;
        if (kept + cost > limit) sync();
        if (live(next) > limit - 8) return AppendOnlyTree.NO_ROOM;
        nodes = next;
        since.add(copy(nodes));
        kept += cost;
        return answer;
    }

    private void startAfresh() {
        since.clear();
        since.add(copy(nodes));
        kept = live(nodes);
    }
}
