import java.util.Random;

/** Long runs of calls, the same ones each time, with the answers of the model. */
public final class ModelTest {
    private static final int RUNS = 3000;
    private static final int CALLS = 512;
    private static final int[] EDGES = {-1, 8, 9, 16, 32, Integer.MIN_VALUE, Integer.MAX_VALUE};

    private static final Due due = new Due();

    private final Random random;
    private final AppendOnlyTree tree;
    private final Model model;
    private final int nodes;
    private final int names;

    private ModelTest(int run) {
        random = new Random(run);
        int segments = random.nextInt(8) == 0 ? random.nextInt(20) - 5 : 4 + random.nextInt(5);
        tree = new AppendOnlyTree(segments);
        model = new Model(segments);
        nodes = 2 + random.nextInt(15);
        names = 3 + random.nextInt(30);
    }

    public static void main(String[] args) {
        for (int run = 0; run < RUNS && due.allRight(); run++) {
            due.part("run " + run);
            ModelTest test = new ModelTest(run);
            for (int call = 0; call < CALLS && due.allRight(); call++) {
                test.call();
            }
        }
        due.end();
    }

    private int some(int bound) {
        return random.nextInt(60) == 0 ? EDGES[random.nextInt(EDGES.length)] : random.nextInt(bound);
    }

    /** A directory more often than not: with any node, few calls would come past ABSENT. */
    private int dir() {
        for (int tries = 0; tries < 3; tries++) {
            int node = random.nextInt(nodes);
            if (model.tell(node, 0) == 2) {
                return node;
            }
        }
        return random.nextInt(3) == 0 ? some(nodes) : 0;
    }

    private int file() {
        for (int tries = 0; tries < 4; tries++) {
            int node = random.nextInt(nodes);
            if (model.tell(node, 0) == 1) {
                return node;
            }
        }
        return some(nodes);
    }

    private int nameIn(int dir) {
        int name = model.entry(dir, random.nextInt(8));
        return name < 0 || random.nextInt(6) == 0 ? some(names) : name;
    }

    private int placeIn(int file) {
        int size = model.tell(file, 1);
        return size < 0 || random.nextInt(6) == 0 ? some(9) : random.nextInt(size + 1);
    }

    private void call() {
        int kind = random.nextInt(40);
        if (kind < 24) {
            change(kind);
        } else {
            question(kind - 24);
        }
    }

    private void change(int kind) {
        int dir = dir();
        int file = file();
        if (kind < 6) {
            int name = some(names);
            boolean directory = random.nextInt(5) < 2;
            due.is("create(" + dir + ", " + name + ", " + directory + ")",
                    tree.create(dir, name, directory), model.create(dir, name, directory));
        } else if (kind < 8) {
            int name = some(names);
            due.is("link(" + dir + ", " + name + ", " + file + ")",
                    tree.link(dir, name, file), model.link(dir, name, file));
        } else if (kind < 11) {
            int name = nameIn(dir);
            due.is("remove(" + dir + ", " + name + ")", tree.remove(dir, name), model.remove(dir, name));
        } else if (kind < 15) {
            int name = nameIn(dir);
            int to = dir();
            int toName = some(names);
            due.is("rename(" + dir + ", " + name + ", " + to + ", " + toName + ")",
                    tree.rename(dir, name, to, toName), model.rename(dir, name, to, toName));
        } else if (kind < 21) {
            int place = placeIn(file);
            int value = random.nextInt();
            due.is("write(" + file + ", " + place + ", " + value + ")",
                    tree.write(file, place, value), model.write(file, place, value));
        } else if (kind < 23) {
            int size = placeIn(file);
            due.is("cut(" + file + ", " + size + ")", tree.cut(file, size), model.cut(file, size));
        } else if (random.nextInt(4) == 0) {
            due.is("sync()", tree.sync(), model.sync());
        } else {
            int keep = random.nextInt(3) == 0 ? some(8) : random.nextInt(model.count(2) + 1);
            due.is("crash(" + keep + ")", tree.crash(keep), model.crash(keep));
        }
    }

    private void question(int kind) {
        int dir = dir();
        int file = file();
        if (kind < 3) {
            int name = nameIn(dir);
            due.is("find(" + dir + ", " + name + ")", tree.find(dir, name), model.find(dir, name));
        } else if (kind < 5) {
            int k = some(9);
            due.is("entry(" + dir + ", " + k + ")", tree.entry(dir, k), model.entry(dir, k));
        } else if (kind < 8) {
            int place = some(9);
            due.is("read(" + file + ", " + place + ")", tree.read(file, place), model.read(file, place));
        } else if (kind < 11) {
            int node = some(nodes);
            int what = some(3);
            due.is("tell(" + node + ", " + what + ")", tree.tell(node, what), model.tell(node, what));
        } else {
            int what = some(6);
            due.is("count(" + what + ")", tree.count(what), model.count(what));
        }
    }
}
