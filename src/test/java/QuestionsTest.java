/** The sentences of promises 10 to 14 (find, entry, read, tell, count), each with a test of its own. */
public final class QuestionsTest {
    private static final int DONE = AppendOnlyTree.DONE;
    private static final int REFUSED = AppendOnlyTree.REFUSED;
    private static final int ABSENT = AppendOnlyTree.ABSENT;
    private static final long NONE = AppendOnlyTree.NONE;

    private static final int LEAST = Integer.MIN_VALUE;
    private static final int MOST = Integer.MAX_VALUE;

    private static final int[] NO_NODES = {-1, 16, LEAST, MOST};

    private static final Due due = new Due();
    private static final Behind behind = new Behind(due);

    public static void main(String[] args) {
        findOfAnEntry();
        findOfNothing();
        findOutOfRange();
        entryInOrder();
        entryInNoDirectory();
        entryOfNotSoMany();
        entryOutOfRange();
        readOfAnInt();
        readOfNoFile();
        readOfNoPlace();
        readOutOfRange();
        tellWhetherANodeIsThere();
        tellSizes();
        tellEntries();
        tellLinks();
        tellOfNothing();
        tellOutOfRange();
        countLive();
        countKept();
        countChanges();
        countSyncs();
        countNodes();
        countLimit();
        countOutOfRange();
        due.end();
    }

    private static Run some() {
        return Starts.some(due);
    }

    private static Run house() {
        return Starts.house(due, 8, false);
    }

    private static void findOfAnEntry() {
        due.part("10: The node of the entry name in dir.");
        Run run = house();
        for (int name = 0; name <= 31; name++) {
            run.find(0, name, name <= 7 ? name + 1 : ABSENT);
            run.find(1, name, name <= 6 ? name + 9 : ABSENT);
        }
        run.rename(0, 7, 0, 31, DONE);
        run.find(0, 31, 8);
        run.find(0, 7, ABSENT);
        run.link(1, 31, 8, DONE);
        run.find(1, 31, 8);
    }

    private static void findOfNothing() {
        due.part("10: dir is no DIRECTORY or does not have the name: ABSENT.");
        behind.nothing(QuestionsTest::some,
                run -> run.find(2, 2, ABSENT),
                run -> run.find(3, 0, ABSENT),
                run -> run.find(5, 0, ABSENT),
                run -> run.find(15, 31, ABSENT),
                run -> run.find(0, 0, ABSENT),
                run -> run.find(0, 2, ABSENT),
                run -> run.find(0, 31, ABSENT),
                run -> run.find(4, 5, ABSENT));
        Run run = new Run(due, 4);
        for (int name = 0; name <= 31; name++) {
            run.find(0, name, ABSENT);
        }
        run.create(0, 0, true, 1);
        run.create(1, 0, false, 2);
        run.remove(1, 0, DONE);
        run.remove(0, 0, DONE);
        run.find(1, 0, ABSENT);
    }

    private static void findOutOfRange() {
        due.part("10: (numbers out of range are REFUSED)");
        int[] noNames = {-1, 32, LEAST, MOST};
        for (int node : NO_NODES) {
            behind.nothing(QuestionsTest::some, run -> run.find(node, 3, REFUSED));
        }
        for (int name : noNames) {
            behind.nothing(QuestionsTest::some,
                    run -> run.find(0, name, REFUSED),
                    run -> run.find(1, name, REFUSED),
                    run -> run.find(2, name, REFUSED),
                    run -> run.find(15, name, REFUSED));
        }
    }

    private static void entryInOrder() {
        due.part("11: The k-th least name in dir, from 0.");
        int[] names = {16, 31, 0, 15, 30, 1, 8, 7};
        int[] sorted = {0, 1, 7, 8, 15, 16, 30, 31};
        Run run = new Run(due, 8);
        for (int k = 0; k < 8; k++) {
            run.create(0, names[k], k % 2 == 0, k + 1);
        }
        for (int k = 0; k < 8; k++) {
            run.entry(0, k, sorted[k]);
        }
        run.remove(0, 0, DONE);
        run.entry(0, 0, 1);
        run.entry(0, 6, 31);
        run.rename(0, 31, 0, 0, DONE);
        run.entry(0, 0, 0);
        run.entry(0, 6, 30);
        run.create(1, 31, false, 3);
        run.entry(1, 0, 31);
    }

    private static void entryInNoDirectory() {
        due.part("11: dir is no DIRECTORY: ABSENT.");
        int[] ks = {0, 1, 7, 8, -1, LEAST, MOST};
        for (int k : ks) {
            behind.nothing(QuestionsTest::some,
                    run -> run.entry(2, k, ABSENT),
                    run -> run.entry(3, k, ABSENT),
                    run -> run.entry(5, k, ABSENT),
                    run -> run.entry(15, k, ABSENT));
        }
    }

    private static void entryOfNotSoMany() {
        due.part("11: There are not so many, or k is below 0: REFUSED.");
        for (int entries = 0; entries <= 8; entries++) {
            Run run = new Run(due, 8);
            run.create(0, 31, true, 1);
            for (int name = 0; name < entries; name++) {
                run.create(1, name, false, name + 2);
            }
            for (int k = 0; k <= 9; k++) {
                run.entry(1, k, k < entries ? k : REFUSED);
            }
            run.entry(1, 31, REFUSED);
            run.entry(1, 32, REFUSED);
            run.entry(1, MOST, REFUSED);
            run.entry(1, -1, REFUSED);
            run.entry(1, -32, REFUSED);
            run.entry(1, LEAST, REFUSED);
        }
        behind.nothing(QuestionsTest::some,
                run -> run.entry(0, 3, REFUSED),
                run -> run.entry(0, -1, REFUSED),
                run -> run.entry(4, 0, REFUSED));
    }

    private static void entryOutOfRange() {
        due.part("11: (numbers out of range are REFUSED)");
        for (int node : NO_NODES) {
            behind.nothing(QuestionsTest::some,
                    run -> run.entry(node, 0, REFUSED),
                    run -> run.entry(node, -1, REFUSED),
                    run -> run.entry(node, MOST, REFUSED));
        }
    }

    private static void readOfAnInt() {
        due.part("12: The int at a place of a FILE");
        int[] values = {0, 1, -1, LEAST, MOST, 1 << 16, -2, (int) NONE};
        Run run = new Run(due, 8);
        run.create(0, 0, false, 1);
        run.create(0, 1, false, 2);
        for (int place = 0; place <= 7; place++) {
            run.write(1, place, values[place], DONE);
        }
        run.write(2, 0, 5, DONE);
        for (int place = 0; place <= 7; place++) {
            run.read(1, place, values[place]);
        }
        run.read(2, 0, 5);
    }

    private static void readOfNoFile() {
        due.part("12: NONE if it is no FILE ..");
        behind.nothing(QuestionsTest::some,
                run -> run.read(0, 0, NONE),
                run -> run.read(1, 0, NONE),
                run -> run.read(1, 1, NONE),
                run -> run.read(4, 0, NONE),
                run -> run.read(5, 0, NONE),
                run -> run.read(15, 0, NONE));
        // A directory that has the number of a file that had ints.
        Run run = Starts.file(due, 2);
        run.remove(0, 1, DONE);
        run.read(1, 0, NONE);
        run.create(0, 1, true, 1);
        run.create(1, 0, true, 2);
        run.read(1, 0, NONE);
    }

    private static void readOfNoPlace() {
        due.part("12: NONE if .. its size is not above place, or place is below 0 ..");
        for (int size = 0; size <= 8; size++) {
            Run run = Starts.file(due, size);
            run.read(1, size, NONE);
            run.read(1, size + 1, NONE);
            run.read(1, MOST, NONE);
            run.read(1, -1, NONE);
            run.read(1, LEAST, NONE);
            if (size > 0) {
                run.read(1, 0, 100);
                run.read(1, size - 1, 99 + size);
            }
        }
        behind.nothing(QuestionsTest::some,
                run -> run.read(3, 2, NONE),
                run -> run.read(3, -1, NONE));
    }

    private static void readOutOfRange() {
        due.part("12: NONE if .. file is out of range.");
        for (int node : NO_NODES) {
            behind.nothing(QuestionsTest::some,
                    run -> run.read(node, 0, NONE),
                    run -> run.read(node, 8, NONE),
                    run -> run.read(node, -1, NONE));
        }
    }

    private static void tellWhetherANodeIsThere() {
        due.part("13: Of a node what 0: 0 not there, 1 a FILE, 2 a DIRECTORY");
        Run run = some();
        int[] kinds = {2, 2, 1, 1, 2, 0, 0, 0, 0, 0, 0, 0, 0, 0, 0, 0};
        for (int node = 0; node <= 15; node++) {
            run.tell(node, 0, kinds[node]);
        }
        run = house();
        for (int node = 0; node <= 15; node++) {
            run.tell(node, 0, node <= 1 ? 2 : 1);
        }
    }

    private static void tellSizes() {
        due.part("13: 1: the size of a FILE ..");
        for (int size = 0; size <= 8; size++) {
            Run run = Starts.file(due, size);
            run.tell(1, 1, size);
            run.link(0, 9, 1, DONE);
            run.tell(1, 1, size);
        }
    }

    private static void tellEntries() {
        due.part("13: 1: .. the number of entries of a DIRECTORY");
        Run run = new Run(due, 8);
        run.create(0, 0, true, 1);
        for (int entries = 0; entries <= 8; entries++) {
            run.tell(1, 1, entries);
            run.create(1, entries, false, entries < 8 ? entries + 2 : AppendOnlyTree.FULL);
        }
        run.tell(1, 1, 8);
        run.tell(0, 1, 1);
        run.remove(1, 0, DONE);
        run.tell(1, 1, 7);
        run.rename(1, 1, 1, 0, DONE);
        run.tell(1, 1, 7);
        run.rename(1, 0, 0, 1, DONE);
        run.tell(1, 1, 6);
        run.tell(0, 1, 2);
    }

    private static void tellLinks() {
        due.part("13: 2: the LINKS of a FILE, 0 for the root, 1 for another DIRECTORY.");
        Run run = some();
        run.tell(0, 2, 0);
        run.tell(1, 2, 1);
        run.tell(2, 2, 1);
        run.tell(3, 2, 2);
        run.tell(4, 2, 1);
        run.create(4, 0, true, 5);
        run.tell(5, 2, 1);
        run.tell(4, 2, 1);
        run.link(4, 1, 3, DONE);
        run.tell(3, 2, 3);
        run = Starts.fullDirectory(due);
        run.tell(2, 2, 9);
        run.tell(1, 2, 1);
        run.tell(0, 2, 0);
        run = new Run(due, 4);
        run.tell(0, 2, 0);
    }

    private static void tellOfNothing() {
        due.part("13: For 1 and 2: ABSENT if it is not there.");
        Run run = new Run(due, 4);
        for (int node = 1; node <= 15; node++) {
            run.tell(node, 0, 0);
            run.tell(node, 1, ABSENT);
            run.tell(node, 2, ABSENT);
        }
        run.create(0, 0, false, 1);
        run.tell(1, 1, 0);
        run.tell(1, 2, 1);
        run.tell(2, 1, ABSENT);
        run.tell(2, 2, ABSENT);
        run.remove(0, 0, DONE);
        run.tell(1, 1, ABSENT);
        run.tell(1, 2, ABSENT);
    }

    private static void tellOutOfRange() {
        due.part("13: REFUSED for another what.");
        int[] noWhats = {-1, 3, 4, LEAST, MOST};
        for (int what : noWhats) {
            behind.nothing(QuestionsTest::some,
                    run -> run.tell(0, what, REFUSED),
                    run -> run.tell(1, what, REFUSED),
                    run -> run.tell(2, what, REFUSED),
                    run -> run.tell(15, what, REFUSED),
                    run -> run.tell(16, what, REFUSED));
        }
        for (int node : NO_NODES) {
            for (int what = 0; what <= 2; what++) {
                int of = what;
                behind.nothing(QuestionsTest::some, run -> run.tell(node, of, REFUSED));
            }
        }
    }

    private static void countLive() {
        due.part("14: What 0: LIVE");
        new Run(due, 4).count(0, 1);
        some().count(0, 8);
        house().count(0, 16);
        Starts.file(due, 8).count(0, 10);
        Starts.atMost(due, 4).count(0, 8);
        Starts.atMost(due, 8).count(0, 40);
    }

    private static void countKept() {
        due.part("14: 1: KEPT");
        new Run(due, 4).count(1, 1);
        some().count(1, 15);
        house().count(1, 46);
        Starts.someKept(due, 48).count(1, 48);
        Starts.atMost(due, 8).count(1, 40);
    }

    private static void countChanges() {
        due.part("14: 2: changes done since the last sync");
        new Run(due, 4).count(2, 0);
        some().count(2, 3);
        house().count(2, 15);
        Starts.atMost(due, 8).count(2, 0);
        Run run = Starts.someKept(due, 48);
        run.count(2, 14);
        run.cut(2, 0, DONE);
        run.count(2, 1);
        run.crash(1, 1);
        run.count(2, 0);
    }

    private static void countSyncs() {
        due.part("14: 3: how many syncs there were, by itself or not");
        new Run(due, 4).count(3, 0);
        Run run = Starts.someKept(due, 48);
        run.count(3, 1);
        run.cut(2, 0, DONE);
        run.count(3, 2);
        run.sync(7);
        run.count(3, 3);
        run.crash(0, 0);
        run.count(3, 3);
    }

    private static void countNodes() {
        due.part("14: 4: how many nodes are there");
        new Run(due, 4).count(4, 1);
        some().count(4, 5);
        Run run = house();
        run.count(4, 16);
        run.remove(1, 6, DONE);
        run.count(4, 15);
        run.link(1, 6, 2, DONE);
        run.count(4, 15);
        run.remove(0, 1, DONE);
        run.count(4, 15);
    }

    private static void countLimit() {
        due.part("14: 5: LIMIT.");
        new Run(due, 4).count(5, 16);
        new Run(due, 5).count(5, 24);
        new Run(due, 6).count(5, 32);
        new Run(due, 7).count(5, 40);
        new Run(due, 8).count(5, 48);
        some().count(5, 48);
    }

    private static void countOutOfRange() {
        due.part("14: REFUSED for others.");
        int[] noWhats = {-1, 6, 7, LEAST, MOST};
        for (int what : noWhats) {
            new Run(due, 4).count(what, REFUSED);
            behind.nothing(QuestionsTest::some, run -> run.count(what, REFUSED));
        }
    }
}
