/** The sentences of promises 2 to 7 (create, link, remove, rename, write, cut), each with a test of its own. */
public final class ChangesTest {
    private static final int DONE = AppendOnlyTree.DONE;
    private static final int REFUSED = AppendOnlyTree.REFUSED;
    private static final int ABSENT = AppendOnlyTree.ABSENT;
    private static final int EXISTS = AppendOnlyTree.EXISTS;
    private static final int NOT_EMPTY = AppendOnlyTree.NOT_EMPTY;
    private static final int FULL = AppendOnlyTree.FULL;
    private static final long NONE = AppendOnlyTree.NONE;

    private static final int LEAST = Integer.MIN_VALUE;
    private static final int MOST = Integer.MAX_VALUE;

    private static final Due due = new Due();
    private static final Behind behind = new Behind(due);

    public static void main(String[] args) {
        createMakesAnEmptyNode();
        createInNoDirectory();
        createOfANameThatIsThere();
        createWithEightEntries();
        createWithAllNodes();
        createTakesTheLeastNumber();
        linkMakesAnotherEntry();
        linkInNoDirectoryOrOfNoFile();
        linkOfANameThatIsThere();
        linkWithEightEntries();
        linkWithAllNodes();
        linkIsAChange();
        removeTakesTheEntryOut();
        removeOfNothing();
        removeOfADirectoryWithEntries();
        removeIsAChange();
        removedNodesAreNotThere();
        renameMovesTheEntry();
        renameOfNothing();
        renameToANameThatIsThere();
        renameIntoItself();
        renameIntoAFullDirectory();
        renameIsAChange();
        writePlaces();
        writeToNoFile();
        writeAboveTheSize();
        writeAtTheSize();
        writeBelowTheSize();
        cutSizes();
        cutOfNoFile();
        cutAboveTheSize();
        cutIsAChange();
        cutKeepsTheIntsBefore();
        due.end();
    }

    private static Run some() {
        return Starts.some(due);
    }

    private static Run house() {
        return Starts.house(due, 8, false);
    }

    private static Run fullDirectory() {
        return Starts.fullDirectory(due);
    }

    private static void createMakesAnEmptyNode() {
        due.part("2: Makes a node, an empty FILE or DIRECTORY, with an entry name in dir.");
        for (int kind = 1; kind <= 2; kind++) {
            Run run = some();
            run.create(4, 9, kind == 2, 5);
            run.tell(5, 0, kind);
            run.tell(5, 1, 0);
            run.tell(5, 2, 1);
            run.find(4, 9, 5);
            run.entry(4, 0, 9);
            run.tell(4, 1, 1);
            run.read(5, 0, NONE);
        }
        // A number that comes again brings nothing of the node that had it before.
        for (int kind = 1; kind <= 2; kind++) {
            Run run = Starts.file(due, 8);
            run.remove(0, 1, DONE);
            run.create(0, 2, kind == 2, 1);
            run.tell(1, 0, kind);
            run.tell(1, 1, 0);
            run.tell(1, 2, 1);
            run.read(1, 0, NONE);
            run.entry(1, 0, kind == 2 ? REFUSED : ABSENT);
            run.write(1, 1, 5, kind == 2 ? ABSENT : REFUSED);
        }
    }

    private static void createInNoDirectory() {
        due.part("2: dir is no DIRECTORY: ABSENT.");
        behind.nothing(ChangesTest::some,
                run -> run.create(2, 9, false, ABSENT),
                run -> run.create(3, 9, true, ABSENT),
                run -> run.create(5, 9, false, ABSENT),
                run -> run.create(15, 9, true, ABSENT));
        Run run = some();
        run.remove(0, 5, DONE);
        run.create(4, 9, false, ABSENT);
    }

    private static void createOfANameThatIsThere() {
        due.part("2: It has the name: EXISTS.");
        behind.nothing(ChangesTest::some,
                run -> run.create(0, 1, false, EXISTS),
                run -> run.create(0, 1, true, EXISTS),
                run -> run.create(0, 3, false, EXISTS),
                run -> run.create(0, 3, true, EXISTS),
                run -> run.create(1, 4, false, EXISTS));
        Run run = some();
        run.create(0, 2, false, 5);
        run.create(0, 2, false, EXISTS);
        run.remove(0, 3, DONE);
        run.create(0, 3, true, 6);
    }

    private static void createWithEightEntries() {
        due.part("2: It has 8 entries, or all 16 nodes are there: FULL: 8 entries");
        behind.nothing(ChangesTest::fullDirectory,
                run -> run.create(1, 8, false, FULL),
                run -> run.create(1, 8, true, FULL));
        Run run = fullDirectory();
        run.create(0, 8, false, 3);
        run.remove(1, 0, DONE);
        run.tell(1, 1, 7);
        run.create(1, 8, true, 4);
        run.tell(1, 1, 8);
        run.create(1, 0, false, FULL);
    }

    private static void createWithAllNodes() {
        due.part("2: It has 8 entries, or all 16 nodes are there: FULL: all 16 nodes");
        behind.nothing(ChangesTest::house,
                run -> run.create(1, 7, false, FULL),
                run -> run.create(1, 7, true, FULL));
        Run run = Starts.house(due, 8, true);
        run.count(4, 16);
        run.create(15, 0, true, FULL);
        run.remove(1, 0, DONE);
        run.count(4, 15);
        run.create(15, 0, true, 9);
        run.count(4, 16);
        run.create(15, 1, true, FULL);
    }

    private static void createTakesTheLeastNumber() {
        due.part("2: A change (of dir and the new node): the new node, which has the least number that is not there.");
        Run run = house();
        run.sync(16);
        for (int name = 7; name >= 1; name -= 2) {
            run.remove(0, name, DONE);
        }
        run.remove(1, 6, DONE);
        run.count(1, 26);
        run.create(1, 10, false, 2);
        run.count(1, 29);
        run.count(2, 6);
        run.create(0, 10, true, 4);
        run.create(0, 11, false, 6);
        run.create(0, 12, true, 8);
        run.create(0, 13, false, 15);
        run.count(4, 16);
        run.count(1, 41);
        // A crash makes the same numbers again, and frees those that it does not keep.
        run.crash(7, 7);
        run.find(0, 10, 4);
        run.create(0, 20, false, 6);
    }

    private static void linkMakesAnotherEntry() {
        due.part("3: Makes another entry name in dir for a FILE.");
        Run run = some();
        run.link(4, 0, 2, DONE);
        run.find(4, 0, 2);
        run.find(1, 2, 2);
        run.tell(2, 2, 2);
        run.tell(2, 1, 1);
        run.read(2, 0, 20);
        run.link(4, 31, 2, DONE);
        run.tell(2, 2, 3);
        run.tell(4, 1, 2);
        run.count(0, 8);
        run.count(4, 5);
        run.remove(1, 2, DONE);
        run.read(2, 0, 20);
    }

    private static void linkInNoDirectoryOrOfNoFile() {
        due.part("3: dir is no DIRECTORY or file no FILE: ABSENT.");
        behind.nothing(ChangesTest::some,
                run -> run.link(2, 9, 3, ABSENT),
                run -> run.link(3, 9, 3, ABSENT),
                run -> run.link(5, 9, 3, ABSENT),
                run -> run.link(15, 9, 3, ABSENT),
                run -> run.link(0, 9, 0, ABSENT),
                run -> run.link(0, 9, 4, ABSENT),
                run -> run.link(0, 9, 5, ABSENT),
                run -> run.link(0, 9, 15, ABSENT),
                run -> run.link(2, 9, 4, ABSENT));
    }

    private static void linkOfANameThatIsThere() {
        due.part("3: dir has the name: EXISTS.");
        behind.nothing(ChangesTest::some,
                run -> run.link(0, 3, 2, EXISTS),
                run -> run.link(0, 3, 3, EXISTS),
                run -> run.link(0, 1, 2, EXISTS),
                run -> run.link(1, 2, 3, EXISTS));
        Run run = some();
        run.link(1, 3, 2, DONE);
        run.link(0, 2, 2, DONE);
    }

    private static void linkWithEightEntries() {
        due.part("3: dir has 8 entries: FULL.");
        behind.nothing(ChangesTest::fullDirectory, run -> run.link(1, 8, 2, FULL));
        behind.nothing(ChangesTest::house, run -> run.link(0, 8, 9, FULL));
        Run run = fullDirectory();
        run.remove(1, 3, DONE);
        run.tell(1, 1, 7);
        run.link(1, 8, 2, DONE);
        run.tell(1, 1, 8);
        run.link(1, 3, 2, FULL);
    }

    private static void linkWithAllNodes() {
        due.part("3: dir has 8 entries: FULL: all 16 nodes are nothing to a link");
        Run run = house();
        run.count(4, 16);
        run.link(1, 7, 2, DONE);
        run.find(1, 7, 2);
        run.count(4, 16);
    }

    private static void linkIsAChange() {
        due.part("3: A change (of both): DONE.");
        Run run = some();
        run.counts(8, 15, 3, 1, 5);
        run.link(0, 9, 2, DONE);
        run.counts(8, 18, 4, 1, 5);
        run.link(1, 9, 2, DONE);
        run.counts(8, 21, 5, 1, 5);
        run.crash(4, 4);
        run.tell(2, 2, 2);
        run.find(0, 9, 2);
        run.find(1, 9, ABSENT);
    }

    private static void removeTakesTheEntryOut() {
        due.part("4: Takes the entry name out of dir.");
        Run run = some();
        run.remove(1, 4, DONE);
        run.find(1, 4, ABSENT);
        run.find(0, 3, 3);
        run.tell(1, 1, 1);
        run.entry(1, 0, 2);
        run.entry(1, 1, REFUSED);
        run.remove(1, 4, ABSENT);
        run.tell(3, 2, 1);
        run.remove(0, 3, DONE);
        run.tell(0, 1, 2);
        run.entry(0, 1, 5);
    }

    private static void removeOfNothing() {
        due.part("4: dir is no DIRECTORY or does not have the name: ABSENT.");
        behind.nothing(ChangesTest::some,
                run -> run.remove(2, 2, ABSENT),
                run -> run.remove(3, 0, ABSENT),
                run -> run.remove(5, 0, ABSENT),
                run -> run.remove(15, 31, ABSENT),
                run -> run.remove(0, 0, ABSENT),
                run -> run.remove(0, 2, ABSENT),
                run -> run.remove(0, 4, ABSENT),
                run -> run.remove(0, 31, ABSENT),
                run -> run.remove(1, 1, ABSENT),
                run -> run.remove(4, 5, ABSENT));
        behind.nothing(() -> new Run(due, 4), run -> run.remove(0, 0, ABSENT));
    }

    private static void removeOfADirectoryWithEntries() {
        due.part("4: The entry's node is a DIRECTORY with entries: NOT_EMPTY.");
        behind.nothing(ChangesTest::some, run -> run.remove(0, 1, NOT_EMPTY));
        behind.nothing(ChangesTest::fullDirectory, run -> run.remove(0, 0, NOT_EMPTY));
        Run run = some();
        run.remove(1, 2, DONE);
        run.remove(0, 1, NOT_EMPTY);
        run.remove(1, 4, DONE);
        run.remove(0, 1, DONE);
        run.create(4, 0, true, 1);
        run.remove(0, 5, NOT_EMPTY);
        run.remove(4, 0, DONE);
        run.remove(0, 5, DONE);
        // Ints are no entries: a file goes with them.
        run.remove(0, 3, DONE);
        run.count(0, 1);
    }

    private static void removeIsAChange() {
        due.part("4: A change (of dir, and of a FILE that has another entry): DONE");
        Run run = some();
        run.remove(0, 3, DONE);
        run.counts(8, 18, 4, 1, 5);
        run.remove(1, 4, DONE);
        run.counts(5, 20, 5, 1, 4);
        run.remove(0, 5, DONE);
        run.counts(4, 22, 6, 1, 3);
        run.remove(1, 2, DONE);
        run.counts(2, 24, 7, 1, 2);
        run.crash(4, 4);
        run.counts(8, 8, 0, 1, 5);
    }

    private static void removedNodesAreNotThere() {
        due.part("4: a DIRECTORY, or a FILE that has no other entry, is not there any more.");
        Run run = some();
        run.remove(0, 5, DONE);
        run.tell(4, 0, 0);
        run.tell(4, 1, ABSENT);
        run.create(4, 0, true, ABSENT);
        run.entry(4, 0, ABSENT);
        run.rename(0, 3, 4, 0, ABSENT);
        run.remove(1, 2, DONE);
        run.tell(2, 0, 0);
        run.write(2, 0, 1, ABSENT);
        run.read(2, 0, NONE);
        run.remove(0, 3, DONE);
        run.tell(3, 0, 1);
        run.remove(1, 4, DONE);
        run.tell(3, 0, 0);
        run.remove(0, 1, DONE);
        run.tell(1, 0, 0);
        run.counts(1, 26, 8, 1, 1);
    }

    private static void renameMovesTheEntry() {
        due.part("5: Takes the entry name out of dir and makes one toName in to, with its node.");
        Run run = some();
        run.rename(0, 3, 4, 0, DONE);
        run.find(0, 3, ABSENT);
        run.find(4, 0, 3);
        run.find(1, 4, 3);
        run.tell(3, 2, 2);
        run.read(3, 1, 31);
        run.tell(0, 1, 2);
        run.tell(4, 1, 1);
        run.rename(0, 1, 4, 31, DONE);
        run.find(0, 1, ABSENT);
        run.find(4, 31, 1);
        run.find(1, 2, 2);
        run.rename(4, 31, 4, 30, DONE);
        run.find(4, 31, ABSENT);
        run.find(4, 30, 1);
        run.tell(4, 1, 2);
        run.rename(1, 2, 1, 0, DONE);
        run.entry(1, 0, 0);
        run.count(4, 5);
        run.count(0, 8);
        // The very last entry of a directory may go, and the name that it had is free then.
        run.rename(0, 5, 0, 6, DONE);
        run.rename(0, 6, 0, 5, DONE);
        run.tell(0, 1, 1);
    }

    private static void renameOfNothing() {
        due.part("5: dir or to is no DIRECTORY, or dir does not have the name: ABSENT.");
        behind.nothing(ChangesTest::some,
                run -> run.rename(2, 2, 0, 9, ABSENT),
                run -> run.rename(15, 3, 0, 9, ABSENT),
                run -> run.rename(0, 3, 2, 9, ABSENT),
                run -> run.rename(0, 3, 3, 9, ABSENT),
                run -> run.rename(0, 3, 15, 9, ABSENT),
                run -> run.rename(2, 3, 3, 9, ABSENT),
                run -> run.rename(0, 2, 0, 9, ABSENT),
                run -> run.rename(0, 4, 1, 9, ABSENT),
                run -> run.rename(4, 3, 0, 9, ABSENT),
                run -> run.rename(0, 9, 0, 9, ABSENT));
    }

    private static void renameToANameThatIsThere() {
        due.part("5: to has toName (the very same entry too): EXISTS.");
        behind.nothing(ChangesTest::some,
                run -> run.rename(0, 3, 0, 3, EXISTS),
                run -> run.rename(0, 1, 0, 1, EXISTS),
                run -> run.rename(1, 4, 1, 4, EXISTS),
                run -> run.rename(0, 3, 0, 1, EXISTS),
                run -> run.rename(0, 3, 1, 4, EXISTS),
                run -> run.rename(0, 3, 1, 2, EXISTS),
                run -> run.rename(1, 2, 0, 5, EXISTS));
    }

    private static void renameIntoItself() {
        due.part("5: The node is a DIRECTORY that to LIES IN: REFUSED.");
        Behind.Start start = () -> {
            Run run = some();
            run.create(1, 6, true, 5);
            run.create(5, 7, true, 6);
            return run;
        };
        behind.nothing(start,
                run -> run.rename(0, 1, 1, 9, REFUSED),
                run -> run.rename(0, 1, 5, 9, REFUSED),
                run -> run.rename(0, 1, 6, 9, REFUSED),
                run -> run.rename(1, 6, 5, 9, REFUSED),
                run -> run.rename(1, 6, 6, 9, REFUSED),
                run -> run.rename(5, 7, 6, 9, REFUSED),
                run -> run.rename(0, 5, 4, 9, REFUSED));
        Run run = start.make();
        run.rename(1, 6, 1, 9, DONE);
        run.rename(5, 7, 1, 7, DONE);
        run.rename(1, 9, 6, 9, DONE);
        run.rename(0, 1, 4, 9, DONE);
        run.rename(0, 5, 5, 9, REFUSED);
        run.rename(0, 5, 0, 9, DONE);
        // What a crash takes back lies again where it lay before.
        run.crash(5, 5);
        run.rename(1, 6, 5, 10, REFUSED);
        run.rename(1, 6, 6, 10, REFUSED);
        run.rename(0, 5, 5, 10, DONE);
    }

    private static void renameIntoAFullDirectory() {
        due.part("5: to is not dir and has 8 entries: FULL.");
        behind.nothing(ChangesTest::fullDirectory, run -> run.rename(0, 1, 1, 8, FULL));
        behind.nothing(ChangesTest::house,
                run -> run.rename(1, 0, 0, 8, FULL),
                run -> run.rename(1, 6, 0, 31, FULL));
        Run run = fullDirectory();
        run.rename(1, 0, 1, 8, DONE);
        run.tell(1, 1, 8);
        run.find(1, 8, 2);
        run.rename(1, 8, 0, 8, DONE);
        run.tell(1, 1, 7);
        run.rename(0, 1, 1, 0, DONE);
        run.tell(1, 1, 8);
        run.rename(0, 8, 1, 8, FULL);
        // 7 entries are not full, nor are 8 of them in dir, with all nodes there.
        run = house();
        run.rename(0, 1, 1, 7, DONE);
        run.tell(1, 1, 8);
        run.tell(0, 1, 7);
    }

    private static void renameIsAChange() {
        due.part("5: A change (of dir and to, of one if they are the same; the node is not changed): DONE.");
        Run run = some();
        run.rename(0, 3, 0, 9, DONE);
        run.counts(8, 17, 4, 1, 5);
        run.rename(0, 9, 4, 9, DONE);
        run.counts(8, 20, 5, 1, 5);
        run.rename(1, 2, 1, 9, DONE);
        run.counts(8, 22, 6, 1, 5);
        run.rename(1, 9, 0, 10, DONE);
        run.counts(8, 25, 7, 1, 5);
        run.rename(0, 1, 0, 11, DONE);
        run.counts(8, 27, 8, 1, 5);
        run.rename(0, 11, 4, 11, DONE);
        run.counts(8, 30, 9, 1, 5);
        run.crash(5, 5);
        run.find(4, 9, 3);
        run.find(1, 2, 2);
    }

    private static void writePlaces() {
        due.part("6: Sets the int at a place 0 .. 7 of a FILE.");
        int[] noPlaces = {-1, 8, 9, -8, 16, LEAST, MOST};
        Behind.Start start = () -> {
            Run run = Starts.file(due, 8);
            run.create(0, 2, false, 2);
            run.write(2, 0, 200, DONE);
            return run;
        };
        for (int no : noPlaces) {
            behind.nothing(start,
                    run -> run.write(1, no, 9, REFUSED),
                    run -> run.write(2, no, 9, REFUSED));
        }
        int[] values = {0, -1, LEAST, MOST};
        for (int place = 0; place <= 7; place++) {
            Run run = start.make();
            for (int value : values) {
                run.write(1, place, value, DONE);
                run.read(1, place, value);
            }
            for (int other = 0; other <= 7; other++) {
                run.read(1, other, other == place ? MOST : 100 + other);
            }
            run.read(2, 0, 200);
            run.tell(1, 1, 8);
            run.tell(2, 1, 1);
        }
    }

    private static void writeToNoFile() {
        due.part("6: file is no FILE: ABSENT.");
        behind.nothing(ChangesTest::some,
                run -> run.write(0, 0, 9, ABSENT),
                run -> run.write(1, 0, 9, ABSENT),
                run -> run.write(4, 0, 9, ABSENT),
                run -> run.write(4, 7, 9, ABSENT),
                run -> run.write(5, 0, 9, ABSENT),
                run -> run.write(15, 7, 9, ABSENT));
    }

    private static void writeAboveTheSize() {
        due.part("6: place is above its size: REFUSED.");
        for (int size = 0; size <= 8; size++) {
            int of = size;
            for (int place = size + 1; place <= 8; place++) {
                int at = place;
                behind.nothing(() -> Starts.file(due, of), run -> run.write(1, at, 9, REFUSED));
            }
        }
    }

    private static void writeAtTheSize() {
        due.part("6: A change (of the file, and one int is set): if place is the size, it becomes 1 more: DONE.");
        for (int size = 0; size <= 7; size++) {
            Run run = Starts.file(due, size);
            run.counts(2 + size, 4 + 3 * size, 1 + size, 0, 2);
            run.write(1, size, 9, DONE);
            run.counts(3 + size, 7 + 3 * size, 2 + size, 0, 2);
            run.tell(1, 1, size + 1);
            run.read(1, size, 9);
            run.read(1, size + 1, NONE);
            run.crash(1 + size, 1 + size);
            run.tell(1, 1, size);
            run.read(1, size, NONE);
        }
    }

    private static void writeBelowTheSize() {
        due.part("6: A change (..): if place is the size, it becomes 1 more: not below the size");
        for (int size = 1; size <= 8; size++) {
            for (int place = 0; place < size; place++) {
                Run run = Starts.file(due, size);
                run.write(1, place, 100 + place, DONE);
                run.write(1, place, 9, DONE);
                run.counts(2 + size, 10 + 3 * size, 3 + size, 0, 2);
                run.tell(1, 1, size);
                run.read(1, place, 9);
                run.crash(2 + size, 2 + size);
                run.read(1, place, 100 + place);
            }
        }
    }

    private static void cutSizes() {
        due.part("7: The FILE gets a size 0 .. 8 that is not above the one it has");
        int[] noSizes = {-1, 9, 10, LEAST, MOST};
        for (int no : noSizes) {
            behind.nothing(() -> Starts.file(due, 8), run -> run.cut(1, no, REFUSED));
            behind.nothing(() -> Starts.file(due, 0), run -> run.cut(1, no, REFUSED));
        }
        for (int from = 0; from <= 8; from++) {
            for (int size = 0; size <= from; size++) {
                Run run = Starts.file(due, from);
                run.cut(1, size, DONE);
                run.tell(1, 1, size);
                run.tell(1, 0, 1);
                run.count(0, 2 + size);
            }
        }
    }

    private static void cutOfNoFile() {
        due.part("7: file is no FILE: ABSENT.");
        behind.nothing(ChangesTest::some,
                run -> run.cut(0, 0, ABSENT),
                run -> run.cut(1, 2, ABSENT),
                run -> run.cut(4, 0, ABSENT),
                run -> run.cut(4, 8, ABSENT),
                run -> run.cut(5, 0, ABSENT),
                run -> run.cut(15, 8, ABSENT));
    }

    private static void cutAboveTheSize() {
        due.part("7: size is above its size: REFUSED.");
        for (int size = 0; size <= 8; size++) {
            int of = size;
            for (int to = size + 1; to <= 9; to++) {
                int at = to;
                behind.nothing(() -> Starts.file(due, of), run -> run.cut(1, at, REFUSED));
            }
        }
    }

    private static void cutIsAChange() {
        due.part("7: A change (of the file, also if it has the size): DONE.");
        for (int size = 0; size <= 8; size++) {
            Run run = Starts.file(due, size);
            run.cut(1, size, DONE);
            run.counts(2 + size, 6 + 3 * size, 2 + size, 0, 2);
            run.cut(1, 0, DONE);
            run.counts(2, 8 + 3 * size, 3 + size, 0, 2);
            run.crash(2 + size, 2 + size);
            run.tell(1, 1, size);
            run.count(0, 2 + size);
        }
    }

    private static void cutKeepsTheIntsBefore() {
        due.part("7: it keeps the ints before.");
        for (int size = 0; size <= 8; size++) {
            Run run = Starts.file(due, 8);
            run.cut(1, size, DONE);
            for (int place = 0; place <= 8; place++) {
                run.read(1, place, place < size ? 100 + place : NONE);
            }
            // The ints that were cut off do not come back with the size.
            if (size < 7) {
                run.write(1, size + 1, 9, REFUSED);
            }
            if (size < 8) {
                run.write(1, size, 9, DONE);
                run.read(1, size, 9);
                run.read(1, size + 1, NONE);
            }
        }
    }
}
