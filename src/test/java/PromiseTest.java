/** For each promise of the document: ordinary inputs, the edges it names, and wrong inputs. */
public final class PromiseTest {
    private static final int DONE = AppendOnlyTree.DONE;
    private static final int REFUSED = AppendOnlyTree.REFUSED;
    private static final int ABSENT = AppendOnlyTree.ABSENT;
    private static final int EXISTS = AppendOnlyTree.EXISTS;
    private static final int NOT_EMPTY = AppendOnlyTree.NOT_EMPTY;
    private static final int FULL = AppendOnlyTree.FULL;
    private static final int NO_ROOM = AppendOnlyTree.NO_ROOM;
    private static final long NONE = AppendOnlyTree.NONE;

    private static final int[] NO_NODES = {-1, 16, Integer.MIN_VALUE, Integer.MAX_VALUE};
    private static final int[] NO_NAMES = {-1, 32, Integer.MIN_VALUE, Integer.MAX_VALUE};

    private static final Due due = new Due();

    public static void main(String[] args) {
        newObject();
        newObjectIsAsAfterASync();
        create();
        createFull();
        createInOrder();
        link();
        linkFull();
        remove();
        removeMakesNodesFree();
        rename();
        renameLiesIn();
        renameLiesInDeep();
        renameFull();
        write();
        cut();
        sync();
        crash();
        crashBringsBackEveryKindOfChange();
        find();
        entry();
        read();
        tell();
        count();
        costs();
        syncByItself();
        syncByItselfStaysMade();
        noRoom();
        callsNotDoneChangeNothing();
        due.end();
    }

    /** LIVE, KEPT, changes, syncs and nodes, in the order of count. */
    private static void counts(AppendOnlyTree x, int live, int kept, int changes, int syncs, int nodes) {
        due.is("count(0)", x.count(0), live);
        due.is("count(1)", x.count(1), kept);
        due.is("count(2)", x.count(2), changes);
        due.is("count(3)", x.count(3), syncs);
        due.is("count(4)", x.count(4), nodes);
    }

    private static void create(AppendOnlyTree x, int dir, int name, boolean directory, int want) {
        due.is("create(" + dir + ", " + name + ", " + directory + ")", x.create(dir, name, directory), want);
    }

    private static void link(AppendOnlyTree x, int dir, int name, int file, int want) {
        due.is("link(" + dir + ", " + name + ", " + file + ")", x.link(dir, name, file), want);
    }

    private static void remove(AppendOnlyTree x, int dir, int name, int want) {
        due.is("remove(" + dir + ", " + name + ")", x.remove(dir, name), want);
    }

    private static void rename(AppendOnlyTree x, int dir, int name, int to, int toName, int want) {
        due.is("rename(" + dir + ", " + name + ", " + to + ", " + toName + ")", x.rename(dir, name, to, toName), want);
    }

    private static void write(AppendOnlyTree x, int file, int place, int value, int want) {
        due.is("write(" + file + ", " + place + ", " + value + ")", x.write(file, place, value), want);
    }

    private static void cut(AppendOnlyTree x, int file, int size, int want) {
        due.is("cut(" + file + ", " + size + ")", x.cut(file, size), want);
    }

    private static void crash(AppendOnlyTree x, int keep, int want) {
        due.is("crash(" + keep + ")", x.crash(keep), want);
    }

    private static void find(AppendOnlyTree x, int dir, int name, int want) {
        due.is("find(" + dir + ", " + name + ")", x.find(dir, name), want);
    }

    private static void entry(AppendOnlyTree x, int dir, int k, int want) {
        due.is("entry(" + dir + ", " + k + ")", x.entry(dir, k), want);
    }

    private static void read(AppendOnlyTree x, int file, int place, long want) {
        due.is("read(" + file + ", " + place + ")", x.read(file, place), want);
    }

    private static void tell(AppendOnlyTree x, int node, int what, int want) {
        due.is("tell(" + node + ", " + what + ")", x.tell(node, what), want);
    }

    private static void newObject() {
        due.part("1 a new object");
        int[] segments = {Integer.MIN_VALUE, -1, 0, 3, 4, 5, 6, 7, 8, 9, Integer.MAX_VALUE};
        int[] limits = {16, 16, 16, 16, 16, 24, 32, 40, 48, 48, 48};
        for (int i = 0; i < segments.length; i++) {
            AppendOnlyTree x = new AppendOnlyTree(segments[i]);
            due.is("count(5) of " + segments[i] + " segments", x.count(5), limits[i]);
        }
    }

    private static void newObjectIsAsAfterASync() {
        due.part("1 a new object is as after a sync");
        AppendOnlyTree x = new AppendOnlyTree(4);
        counts(x, 1, 1, 0, 0, 1);
        tell(x, 0, 0, 2);
        tell(x, 0, 1, 0);
        tell(x, 0, 2, 0);
        for (int node = 1; node < 16; node++) {
            tell(x, node, 0, 0);
        }
        crash(x, 5, 0);
        counts(x, 1, 1, 0, 0, 1);
        create(x, 0, 3, false, 1);
        crash(x, 0, 0);
        counts(x, 1, 1, 0, 0, 1);
        tell(x, 1, 0, 0);
    }

    private static void create() {
        due.part("2 create");
        AppendOnlyTree x = new AppendOnlyTree(8);
        create(x, 0, 0, false, 1);
        create(x, 0, 31, true, 2);
        tell(x, 1, 0, 1);
        tell(x, 1, 1, 0);
        tell(x, 1, 2, 1);
        tell(x, 2, 0, 2);
        tell(x, 2, 1, 0);
        tell(x, 2, 2, 1);
        create(x, 2, 0, true, 3);
        find(x, 2, 0, 3);
        counts(x, 4, 10, 3, 0, 4);
        create(x, 0, 0, false, EXISTS);
        create(x, 0, 0, true, EXISTS);
        create(x, 1, 5, false, ABSENT);
        create(x, 4, 5, false, ABSENT);
        for (int node : NO_NODES) {
            create(x, node, 5, false, REFUSED);
        }
        for (int name : NO_NAMES) {
            create(x, 0, name, false, REFUSED);
            create(x, 15, name, true, REFUSED);
        }
        remove(x, 0, 0, DONE);
        create(x, 0, 7, true, 1);
        tell(x, 1, 0, 2);
        create(x, 0, 8, false, 4);
        counts(x, 5, 18, 6, 0, 5);
    }

    private static void createFull() {
        due.part("2 create, full");
        AppendOnlyTree x = new AppendOnlyTree(8);
        create(x, 0, 0, true, 1);
        for (int name = 1; name < 8; name++) {
            create(x, 0, name, false, name + 1);
        }
        tell(x, 0, 1, 8);
        create(x, 0, 8, false, FULL);
        create(x, 0, 8, true, FULL);
        create(x, 0, 7, true, EXISTS);
        for (int name = 0; name < 7; name++) {
            create(x, 1, name, true, name + 9);
        }
        due.is("count(4)", x.count(4), 16);
        tell(x, 1, 1, 7);
        create(x, 1, 7, false, FULL);
        create(x, 9, 0, true, FULL);
        create(x, 1, 6, true, EXISTS);
        remove(x, 0, 4, DONE);
        create(x, 1, 7, false, 5);
        create(x, 1, 8, false, FULL);
    }

    private static void createInOrder() {
        due.part("2 create takes the least number");
        AppendOnlyTree x = new AppendOnlyTree(8);
        for (int name = 0; name < 6; name++) {
            create(x, 0, name, false, name + 1);
        }
        remove(x, 0, 4, DONE);
        remove(x, 0, 1, DONE);
        create(x, 0, 30, false, 2);
        create(x, 0, 29, false, 5);
        create(x, 0, 28, false, 7);
    }

    private static void link() {
        due.part("3 link");
        AppendOnlyTree x = new AppendOnlyTree(8);
        create(x, 0, 1, false, 1);
        create(x, 0, 2, true, 2);
        write(x, 1, 0, 9, DONE);
        counts(x, 4, 10, 3, 0, 3);
        link(x, 2, 1, 1, DONE);
        counts(x, 4, 13, 4, 0, 3);
        link(x, 0, 31, 1, DONE);
        tell(x, 1, 2, 3);
        tell(x, 2, 1, 1);
        tell(x, 0, 1, 3);
        find(x, 2, 1, 1);
        find(x, 0, 31, 1);
        read(x, 1, 0, 9);
        link(x, 0, 2, 1, EXISTS);
        link(x, 0, 1, 1, EXISTS);
        link(x, 0, 5, 0, ABSENT);
        link(x, 0, 5, 2, ABSENT);
        link(x, 0, 5, 3, ABSENT);
        link(x, 1, 5, 1, ABSENT);
        link(x, 3, 5, 1, ABSENT);
        link(x, 0, 1, 2, ABSENT);
        for (int node : NO_NODES) {
            link(x, node, 5, 1, REFUSED);
            link(x, 0, 5, node, REFUSED);
            link(x, 9, 5, node, REFUSED);
        }
        for (int name : NO_NAMES) {
            link(x, 0, name, 1, REFUSED);
            link(x, 9, name, 2, REFUSED);
        }
        counts(x, 4, 16, 5, 0, 3);
    }

    private static void linkFull() {
        due.part("3 link, full");
        AppendOnlyTree x = new AppendOnlyTree(8);
        create(x, 0, 10, false, 1);
        for (int name = 0; name < 7; name++) {
            link(x, 0, name, 1, DONE);
        }
        tell(x, 1, 2, 8);
        link(x, 0, 7, 1, FULL);
        link(x, 0, 3, 1, EXISTS);
        link(x, 0, 7, 2, ABSENT);
        remove(x, 0, 10, DONE);
        tell(x, 1, 2, 7);
        link(x, 0, 7, 1, DONE);
    }

    private static void remove() {
        due.part("4 remove");
        AppendOnlyTree x = new AppendOnlyTree(8);
        create(x, 0, 1, false, 1);
        create(x, 0, 2, true, 2);
        link(x, 2, 1, 1, DONE);
        write(x, 1, 0, 5, DONE);
        write(x, 1, 1, 6, DONE);
        counts(x, 5, 16, 5, 0, 3);
        remove(x, 0, 2, NOT_EMPTY);
        remove(x, 0, 1, DONE);
        counts(x, 5, 19, 6, 0, 3);
        find(x, 0, 1, ABSENT);
        tell(x, 1, 2, 1);
        read(x, 1, 1, 6);
        remove(x, 0, 1, ABSENT);
        remove(x, 2, 1, DONE);
        counts(x, 2, 21, 7, 0, 2);
        tell(x, 1, 0, 0);
        read(x, 1, 0, NONE);
        remove(x, 0, 2, DONE);
        counts(x, 1, 23, 8, 0, 1);
        tell(x, 2, 0, 0);
        tell(x, 0, 1, 0);
        remove(x, 2, 1, ABSENT);
        remove(x, 15, 1, ABSENT);
        create(x, 0, 4, false, 1);
        remove(x, 1, 4, ABSENT);
        for (int node : NO_NODES) {
            remove(x, node, 4, REFUSED);
        }
        for (int name : NO_NAMES) {
            remove(x, 0, name, REFUSED);
            remove(x, 9, name, REFUSED);
        }
    }

    private static void removeMakesNodesFree() {
        due.part("4 remove makes nodes free");
        AppendOnlyTree x = new AppendOnlyTree(8);
        create(x, 0, 1, false, 1);
        write(x, 1, 0, 77, DONE);
        remove(x, 0, 1, DONE);
        create(x, 0, 1, false, 1);
        tell(x, 1, 1, 0);
        tell(x, 1, 2, 1);
        read(x, 1, 0, NONE);
        remove(x, 0, 1, DONE);
        create(x, 0, 2, true, 1);
        tell(x, 1, 1, 0);
        find(x, 1, 1, ABSENT);
        entry(x, 1, 0, REFUSED);
    }

    private static void rename() {
        due.part("5 rename");
        AppendOnlyTree x = new AppendOnlyTree(8);
        create(x, 0, 1, false, 1);
        create(x, 0, 2, true, 2);
        link(x, 0, 3, 1, DONE);
        counts(x, 3, 10, 3, 0, 3);
        rename(x, 0, 1, 0, 31, DONE);
        counts(x, 3, 12, 4, 0, 3);
        find(x, 0, 1, ABSENT);
        find(x, 0, 31, 1);
        tell(x, 0, 1, 3);
        rename(x, 0, 31, 2, 31, DONE);
        counts(x, 3, 15, 5, 0, 3);
        find(x, 2, 31, 1);
        find(x, 0, 31, ABSENT);
        tell(x, 0, 1, 2);
        tell(x, 2, 1, 1);
        tell(x, 1, 2, 2);
        rename(x, 0, 3, 0, 3, EXISTS);
        rename(x, 0, 3, 0, 2, EXISTS);
        rename(x, 0, 3, 2, 31, EXISTS);
        rename(x, 0, 4, 0, 3, ABSENT);
        rename(x, 0, 4, 0, 5, ABSENT);
        rename(x, 1, 3, 0, 5, ABSENT);
        rename(x, 0, 3, 1, 5, ABSENT);
        rename(x, 9, 3, 0, 5, ABSENT);
        rename(x, 0, 3, 9, 5, ABSENT);
        for (int node : NO_NODES) {
            rename(x, node, 3, 0, 5, REFUSED);
            rename(x, 9, 3, node, 5, REFUSED);
        }
        for (int name : NO_NAMES) {
            rename(x, 9, name, 0, 5, REFUSED);
            rename(x, 9, 3, 0, name, REFUSED);
        }
        counts(x, 3, 15, 5, 0, 3);
    }

    private static void renameLiesIn() {
        due.part("5 rename, lies in");
        AppendOnlyTree x = new AppendOnlyTree(8);
        create(x, 0, 1, true, 1);
        create(x, 1, 1, true, 2);
        create(x, 2, 1, true, 3);
        create(x, 0, 2, true, 4);
        rename(x, 0, 1, 1, 5, REFUSED);
        rename(x, 0, 1, 2, 5, REFUSED);
        rename(x, 0, 1, 3, 5, REFUSED);
        rename(x, 1, 1, 3, 5, REFUSED);
        rename(x, 0, 1, 1, 1, EXISTS);
        rename(x, 0, 1, 0, 9, DONE);
        rename(x, 0, 9, 4, 9, DONE);
        rename(x, 0, 2, 3, 0, REFUSED);
        rename(x, 2, 1, 0, 1, DONE);
        rename(x, 0, 2, 3, 0, DONE);
        find(x, 3, 0, 4);
        find(x, 4, 9, 1);
        rename(x, 0, 1, 2, 0, REFUSED);
        tell(x, 0, 1, 1);
        crash(x, 5, 5);
        rename(x, 0, 2, 3, 0, DONE);
        rename(x, 0, 9, 4, 7, REFUSED);
    }

    private static void renameLiesInDeep() {
        due.part("5 rename, lies in, as deep as nodes allow");
        AppendOnlyTree x = new AppendOnlyTree(8);
        for (int node = 1; node <= 15; node++) {
            create(x, node - 1, 1, true, node);
        }
        for (int node = 1; node <= 15; node++) {
            rename(x, node - 1, 1, 15, 2, REFUSED);
        }
        rename(x, 14, 1, 0, 2, DONE);
        rename(x, 0, 1, 15, 2, DONE);
        find(x, 15, 2, 1);
        rename(x, 0, 2, 14, 3, REFUSED);
    }

    private static void renameFull() {
        due.part("5 rename, full");
        AppendOnlyTree x = new AppendOnlyTree(8);
        create(x, 0, 0, true, 1);
        create(x, 0, 1, true, 2);
        create(x, 0, 2, false, 3);
        for (int name = 0; name < 8; name++) {
            link(x, 2, name, 3, DONE);
        }
        rename(x, 0, 2, 2, 8, FULL);
        rename(x, 0, 0, 2, 8, FULL);
        rename(x, 0, 2, 2, 7, EXISTS);
        rename(x, 0, 1, 2, 8, REFUSED);
        rename(x, 2, 0, 2, 20, DONE);
        entry(x, 2, 0, 1);
        entry(x, 2, 7, 20);
        rename(x, 2, 20, 1, 0, DONE);
        rename(x, 0, 2, 2, 8, DONE);
        tell(x, 2, 1, 8);
        tell(x, 3, 2, 9);
    }

    private static void write() {
        due.part("6 write");
        AppendOnlyTree x = new AppendOnlyTree(8);
        create(x, 0, 1, false, 1);
        create(x, 0, 2, true, 2);
        counts(x, 3, 7, 2, 0, 3);
        write(x, 1, 1, 5, REFUSED);
        write(x, 1, 0, Integer.MIN_VALUE, DONE);
        counts(x, 4, 10, 3, 0, 3);
        write(x, 1, 0, Integer.MAX_VALUE, DONE);
        counts(x, 4, 13, 4, 0, 3);
        tell(x, 1, 1, 1);
        read(x, 1, 0, Integer.MAX_VALUE);
        for (int place = 1; place < 8; place++) {
            write(x, 1, place, place * 10, DONE);
            tell(x, 1, 1, place + 1);
        }
        write(x, 1, 3, -3, DONE);
        read(x, 1, 2, 20);
        read(x, 1, 3, -3);
        read(x, 1, 4, 40);
        tell(x, 1, 1, 8);
        write(x, 1, 8, 1, REFUSED);
        write(x, 1, -1, 1, REFUSED);
        write(x, 9, 8, 1, REFUSED);
        write(x, 9, -1, 1, REFUSED);
        write(x, 0, 0, 1, ABSENT);
        write(x, 2, 0, 1, ABSENT);
        write(x, 3, 7, 1, ABSENT);
        for (int node : NO_NODES) {
            write(x, node, 0, 1, REFUSED);
        }
        counts(x, 11, 37, 12, 0, 3);
    }

    private static void cut() {
        due.part("7 cut");
        AppendOnlyTree x = new AppendOnlyTree(8);
        create(x, 0, 1, false, 1);
        for (int place = 0; place < 8; place++) {
            write(x, 1, place, place + 1, DONE);
        }
        counts(x, 10, 28, 9, 0, 2);
        cut(x, 1, 8, DONE);
        counts(x, 10, 30, 10, 0, 2);
        cut(x, 1, 3, DONE);
        counts(x, 5, 32, 11, 0, 2);
        read(x, 1, 0, 1);
        read(x, 1, 2, 3);
        read(x, 1, 3, NONE);
        cut(x, 1, 4, REFUSED);
        cut(x, 1, 8, REFUSED);
        cut(x, 1, 3, DONE);
        write(x, 1, 4, 50, REFUSED);
        write(x, 1, 3, 40, DONE);
        read(x, 1, 3, 40);
        read(x, 1, 4, NONE);
        cut(x, 1, 0, DONE);
        tell(x, 1, 0, 1);
        tell(x, 1, 1, 0);
        cut(x, 1, 0, DONE);
        cut(x, 1, -1, REFUSED);
        cut(x, 1, 9, REFUSED);
        cut(x, 9, 9, REFUSED);
        cut(x, 9, -1, REFUSED);
        cut(x, 0, 0, ABSENT);
        cut(x, 2, 8, ABSENT);
        for (int node : NO_NODES) {
            cut(x, node, 0, REFUSED);
        }
        counts(x, 2, 41, 15, 0, 2);
    }

    private static void sync() {
        due.part("8 sync");
        AppendOnlyTree x = new AppendOnlyTree(4);
        due.is("sync()", x.sync(), 1);
        counts(x, 1, 1, 0, 1, 1);
        create(x, 0, 1, false, 1);
        write(x, 1, 0, 3, DONE);
        write(x, 1, 0, 4, DONE);
        counts(x, 3, 10, 3, 1, 2);
        due.is("sync()", x.sync(), 3);
        counts(x, 3, 3, 0, 2, 2);
        due.is("sync()", x.sync(), 3);
        counts(x, 3, 3, 0, 3, 2);
        crash(x, 9, 0);
        read(x, 1, 0, 4);
    }

    private static void crash() {
        due.part("9 crash");
        int[] keeps = {Integer.MIN_VALUE, -1, 0, 1, 2, 3, 4, 5, Integer.MAX_VALUE};
        int[] kepts = {0, 0, 0, 1, 2, 3, 4, 4, 4};
        for (int i = 0; i < keeps.length; i++) {
            AppendOnlyTree x = new AppendOnlyTree(6);
            create(x, 0, 1, false, 1);
            write(x, 1, 0, 100, DONE);
            due.is("sync()", x.sync(), 3);
            for (int k = 1; k <= 4; k++) {
                write(x, 1, k, 100 + k, DONE);
                write(x, 1, 7, 1, REFUSED);
            }
            counts(x, 7, 15, 4, 1, 2);
            crash(x, keeps[i], kepts[i]);
            counts(x, 3 + kepts[i], 3 + kepts[i], 0, 1, 2);
            tell(x, 1, 1, 1 + kepts[i]);
            read(x, 1, kepts[i], 100 + kepts[i]);
            crash(x, 4, 0);
            counts(x, 3 + kepts[i], 3 + kepts[i], 0, 1, 2);
            create(x, 0, 2, true, 2);
            crash(x, 0, 0);
            tell(x, 1, 1, 1 + kepts[i]);
            tell(x, 2, 0, 0);
        }
    }

    private static void crashBringsBackEveryKindOfChange() {
        due.part("9 crash brings back every kind of change");
        for (int keep = 0; keep <= 7; keep++) {
            AppendOnlyTree x = new AppendOnlyTree(8);
            create(x, 0, 1, false, 1);
            create(x, 0, 2, true, 2);
            write(x, 1, 0, 10, DONE);
            write(x, 1, 1, 11, DONE);
            due.is("sync()", x.sync(), 5);
            link(x, 2, 5, 1, DONE);
            remove(x, 0, 1, DONE);
            rename(x, 0, 2, 0, 9, DONE);
            cut(x, 1, 1, DONE);
            create(x, 2, 6, true, 3);
            write(x, 1, 0, 20, DONE);
            remove(x, 2, 5, DONE);
            crash(x, keep, keep);
            find(x, 2, 5, keep >= 1 && keep < 7 ? 1 : ABSENT);
            find(x, 0, 1, keep >= 2 ? ABSENT : 1);
            find(x, 0, 2, keep >= 3 ? ABSENT : 2);
            find(x, 0, 9, keep >= 3 ? 2 : ABSENT);
            read(x, 1, 1, keep >= 4 ? NONE : 11);
            find(x, 2, 6, keep >= 5 ? 3 : ABSENT);
            read(x, 1, 0, keep >= 7 ? NONE : keep == 6 ? 20 : 10);
            tell(x, 1, 0, keep >= 7 ? 0 : 1);
            tell(x, 1, 2, keep >= 7 ? ABSENT : keep == 1 ? 2 : 1);
            tell(x, 3, 0, keep >= 5 ? 2 : 0);
            int[] live = {5, 5, 5, 5, 4, 5, 5, 3};
            int[] nodes = {3, 3, 3, 3, 3, 4, 4, 3};
            counts(x, live[keep], live[keep], 0, 1, nodes[keep]);
        }
    }

    private static void find() {
        due.part("10 find");
        AppendOnlyTree x = new AppendOnlyTree(5);
        create(x, 0, 0, true, 1);
        create(x, 1, 31, false, 2);
        find(x, 0, 0, 1);
        find(x, 1, 31, 2);
        find(x, 0, 31, ABSENT);
        find(x, 1, 0, ABSENT);
        find(x, 2, 0, ABSENT);
        find(x, 3, 0, ABSENT);
        for (int node : NO_NODES) {
            find(x, node, 0, REFUSED);
        }
        for (int name : NO_NAMES) {
            find(x, 0, name, REFUSED);
            find(x, 3, name, REFUSED);
        }
    }

    private static void entry() {
        due.part("11 entry");
        AppendOnlyTree x = new AppendOnlyTree(8);
        entry(x, 0, 0, REFUSED);
        int[] names = {17, 0, 31, 5, 16, 1, 30, 8};
        int[] sorted = {0, 1, 5, 8, 16, 17, 30, 31};
        for (int k = 0; k < names.length; k++) {
            create(x, 0, names[k], k == 0, k + 1);
        }
        for (int k = 0; k < sorted.length; k++) {
            entry(x, 0, k, sorted[k]);
        }
        entry(x, 0, 8, REFUSED);
        entry(x, 0, -1, REFUSED);
        entry(x, 0, Integer.MIN_VALUE, REFUSED);
        entry(x, 0, Integer.MAX_VALUE, REFUSED);
        entry(x, 1, 0, REFUSED);
        entry(x, 2, 0, ABSENT);
        entry(x, 9, 0, ABSENT);
        entry(x, 9, -1, ABSENT);
        entry(x, 9, 8, ABSENT);
        for (int node : NO_NODES) {
            entry(x, node, 0, REFUSED);
        }
        remove(x, 0, 5, DONE);
        entry(x, 0, 2, 8);
        entry(x, 0, 7, REFUSED);
    }

    private static void read() {
        due.part("12 read");
        AppendOnlyTree x = new AppendOnlyTree(8);
        create(x, 0, 1, false, 1);
        create(x, 0, 2, true, 2);
        create(x, 0, 3, false, 3);
        read(x, 1, 0, NONE);
        write(x, 1, 0, Integer.MIN_VALUE, DONE);
        write(x, 1, 1, -1, DONE);
        write(x, 3, 0, 33, DONE);
        read(x, 1, 0, Integer.MIN_VALUE);
        read(x, 1, 1, -1);
        read(x, 3, 0, 33);
        int[] noPlaces = {2, 7, 8, -1, Integer.MIN_VALUE, Integer.MAX_VALUE};
        for (int place : noPlaces) {
            read(x, 1, place, NONE);
        }
        read(x, 0, 0, NONE);
        read(x, 2, 0, NONE);
        read(x, 4, 0, NONE);
        for (int node : NO_NODES) {
            read(x, node, 0, NONE);
        }
        link(x, 2, 0, 1, DONE);
        read(x, 2, 0, NONE);
    }

    private static void tell() {
        due.part("13 tell");
        AppendOnlyTree x = new AppendOnlyTree(8);
        create(x, 0, 1, false, 1);
        create(x, 0, 2, true, 2);
        link(x, 2, 3, 1, DONE);
        write(x, 1, 0, 5, DONE);
        write(x, 1, 1, 5, DONE);
        write(x, 1, 2, 5, DONE);
        int[][] want = {{2, 2, 0}, {1, 3, 2}, {2, 1, 1}, {0, ABSENT, ABSENT}};
        int[] noWhats = {-1, 3, Integer.MIN_VALUE, Integer.MAX_VALUE};
        for (int node = 0; node < want.length; node++) {
            for (int what = 0; what < 3; what++) {
                tell(x, node, what, want[node][what]);
            }
            for (int what : noWhats) {
                tell(x, node, what, REFUSED);
            }
        }
        for (int node : NO_NODES) {
            for (int what = -1; what <= 3; what++) {
                tell(x, node, what, REFUSED);
            }
        }
    }

    private static void count() {
        due.part("14 count");
        AppendOnlyTree x = new AppendOnlyTree(7);
        create(x, 0, 1, false, 1);
        write(x, 1, 0, 5, DONE);
        due.is("sync()", x.sync(), 3);
        create(x, 0, 2, true, 2);
        cut(x, 1, 0, DONE);
        counts(x, 3, 8, 2, 1, 3);
        due.is("count(5)", x.count(5), 40);
        int[] noWhats = {-1, 6, Integer.MIN_VALUE, Integer.MAX_VALUE};
        for (int what : noWhats) {
            due.is("count(" + what + ")", x.count(what), REFUSED);
        }
    }

    private static void costs() {
        due.part("terms: costs");
        AppendOnlyTree x = new AppendOnlyTree(8);
        create(x, 0, 0, false, 1);
        due.is("count(1) after create", x.count(1), 4);
        create(x, 0, 1, true, 2);
        due.is("count(1) after create", x.count(1), 7);
        link(x, 0, 2, 1, DONE);
        due.is("count(1) after link", x.count(1), 10);
        rename(x, 0, 2, 0, 3, DONE);
        due.is("count(1) after rename in a directory", x.count(1), 12);
        rename(x, 0, 3, 2, 3, DONE);
        due.is("count(1) after rename to another", x.count(1), 15);
        write(x, 1, 0, 1, DONE);
        due.is("count(1) after write", x.count(1), 18);
        cut(x, 1, 0, DONE);
        due.is("count(1) after cut", x.count(1), 20);
        remove(x, 0, 0, DONE);
        due.is("count(1) after remove of one link of two", x.count(1), 23);
        remove(x, 2, 3, DONE);
        due.is("count(1) after remove of the last link", x.count(1), 25);
        remove(x, 0, 1, DONE);
        due.is("count(1) after remove of a directory", x.count(1), 27);
    }

    /** Each kind of change, with KEPT and its cost together just LIMIT, and 1 above it. */
    private static void syncByItself() {
        due.part("terms: a sync made by itself");
        int[] cost = {3, 3, 3, 2, 2, 3, 3, 2};
        for (int kind = 0; kind < cost.length; kind++) {
            for (int above = 0; above <= 1; above++) {
                AppendOnlyTree x = new AppendOnlyTree(8);
                create(x, 0, 0, false, 1);
                create(x, 0, 1, true, 2);
                link(x, 2, 0, 1, DONE);
                create(x, 0, 2, false, 3);
                due.is("sync()", x.sync(), 4);
                fill(x, 48 - cost[kind] + above);
                due.is("count(1)", x.count(1), 48 - cost[kind] + above);
                int live = x.count(0);
                int changes = x.count(2);
                due.is("change " + kind, change(x, kind), kind == 0 ? 4 : DONE);
                due.is("count(3) after change " + kind, x.count(3), 1 + above);
                due.is("count(2) after change " + kind, x.count(2), above == 1 ? 1 : changes + 1);
                due.is("count(1) after change " + kind, x.count(1), above == 1 ? live + cost[kind] : 48);
                crash(x, 0, 0);
                due.is("count(0) after change " + kind, x.count(0), above == 1 ? live : 4);
            }
        }
    }

    /** Brings KEPT, by costs of 3 and 2, to just that number. */
    private static void fill(AppendOnlyTree x, int kept) {
        write(x, 1, 0, 0, DONE);
        for (int i = 0; i < 30 && x.count(1) < kept; i++) {
            int left = kept - x.count(1);
            if (left == 2 || left == 4) {
                cut(x, 1, 1, DONE);
            } else {
                write(x, 1, 0, i, DONE);
            }
        }
    }

    private static int change(AppendOnlyTree x, int kind) {
        switch (kind) {
            case 0: return x.create(0, 9, false);
            case 1: return x.link(0, 9, 1);
            case 2: return x.remove(0, 0);
            case 3: return x.remove(0, 2);
            case 4: return x.rename(0, 0, 0, 9);
            case 5: return x.rename(0, 0, 2, 9);
            case 6: return x.write(1, 1, 9);
            default: return x.cut(1, 0);
        }
    }

    private static void syncByItselfStaysMade() {
        due.part("terms: a sync made by itself stays made");
        AppendOnlyTree x = new AppendOnlyTree(4);
        create(x, 0, 1, false, 1);
        for (int place = 0; place < 6; place++) {
            write(x, 1, place, place, DONE);
        }
        counts(x, 8, 12, 2, 1, 2);
        write(x, 1, 6, 6, NO_ROOM);
        counts(x, 8, 12, 2, 1, 2);
        cut(x, 1, 6, DONE);
        counts(x, 8, 14, 3, 1, 2);
        write(x, 1, 6, 6, NO_ROOM);
        counts(x, 8, 8, 0, 2, 2);
        crash(x, 0, 0);
        read(x, 1, 5, 5);
        read(x, 1, 6, NONE);
        write(x, 1, 5, 50, DONE);
        write(x, 1, 4, 40, DONE);
        counts(x, 8, 14, 2, 2, 2);
        create(x, 0, 1, false, EXISTS);
        write(x, 1, 7, 1, REFUSED);
        counts(x, 8, 14, 2, 2, 2);
        create(x, 0, 2, true, NO_ROOM);
        counts(x, 8, 8, 0, 3, 2);
        find(x, 0, 2, ABSENT);
    }

    private static void noRoom() {
        due.part("terms: no room");
        for (int segments = 4; segments <= 8; segments++) {
            AppendOnlyTree x = new AppendOnlyTree(segments);
            int most = 8 * (segments - 2) - 8;
            int files = 0;
            int live = 1;
            while (live < most) {
                files++;
                create(x, 0, files, false, files);
                live++;
                for (int place = 0; place < 8 && live < most; place++) {
                    write(x, files, place, place, DONE);
                    live++;
                }
            }
            due.is("count(0)", x.count(0), most);
            create(x, 0, 31, false, NO_ROOM);
            create(x, 0, 31, true, NO_ROOM);
            int size = x.tell(files, 1);
            write(x, files, size, 1, size == 8 ? REFUSED : NO_ROOM);
            write(x, files, size - 1, 7, DONE);
            link(x, 0, 31, 1, DONE);
            rename(x, 0, 31, 0, 30, DONE);
            cut(x, 1, x.tell(1, 1), DONE);
            remove(x, 0, 30, DONE);
            due.is("count(0)", x.count(0), most);
            cut(x, 1, x.tell(1, 1) - 1, DONE);
            create(x, 0, 31, true, files + 1);
            write(x, 1, x.tell(1, 1), 7, NO_ROOM);
            remove(x, 0, 31, DONE);
            write(x, 1, x.tell(1, 1), 7, DONE);
            due.is("count(0)", x.count(0), most);
        }
    }

    private static void callsNotDoneChangeNothing() {
        due.part("terms: a call that is not done changes nothing");
        AppendOnlyTree x = new AppendOnlyTree(6);
        create(x, 0, 1, true, 1);
        create(x, 1, 2, false, 2);
        write(x, 2, 0, 8, DONE);
        create(x, 0, 1, false, EXISTS);
        create(x, 2, 1, false, ABSENT);
        link(x, 1, 2, 2, EXISTS);
        link(x, 0, 3, 1, ABSENT);
        remove(x, 0, 1, NOT_EMPTY);
        remove(x, 0, 9, ABSENT);
        rename(x, 0, 1, 1, 5, REFUSED);
        rename(x, 1, 2, 0, 1, EXISTS);
        write(x, 2, 2, 9, REFUSED);
        cut(x, 2, 2, REFUSED);
        counts(x, 4, 10, 3, 0, 3);
        tell(x, 0, 1, 1);
        tell(x, 1, 1, 1);
        tell(x, 2, 1, 1);
        tell(x, 2, 2, 1);
        find(x, 0, 1, 1);
        find(x, 1, 2, 2);
        read(x, 2, 0, 8);
    }
}
