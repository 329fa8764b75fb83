/** The sentences of the document's "Terms" and of what stands before them, each with a test of its own. */
public final class TermsTest {
    private static final int DONE = AppendOnlyTree.DONE;
    private static final int REFUSED = AppendOnlyTree.REFUSED;
    private static final int ABSENT = AppendOnlyTree.ABSENT;
    private static final int EXISTS = AppendOnlyTree.EXISTS;
    private static final int NOT_EMPTY = AppendOnlyTree.NOT_EMPTY;
    private static final int FULL = AppendOnlyTree.FULL;
    private static final int NO_ROOM = AppendOnlyTree.NO_ROOM;
    private static final long NONE = AppendOnlyTree.NONE;

    private static final int LEAST = Integer.MIN_VALUE;
    private static final int MOST = Integer.MAX_VALUE;

    private static final Due due = new Due();
    private static final Behind behind = new Behind(due);

    public static void main(String[] args) {
        everyChangeAddsBlocks();
        syncMakesSafeAndMakesRoom();
        treeAfterACrash();
        callsOfOneObject();
        changesAsTheLastCalls();
        noNodeBelowOrAbove();
        nodeFifteenAsFile();
        nodeFifteenAsDirectory();
        rootIsAlwaysThere();
        nodesAreThereOrNot();
        entriesByCreate();
        entriesByLink();
        entriesByRename();
        namesAreInRange();
        noNameBelowOrAbove();
        namesAreNotAlike();
        noEntryWithTheRoot();
        sizesOfAFile();
        linksOfAFile();
        entryOfADirectory();
        fileWithoutEntry();
        liesIn();
        blocks();
        kept();
        limit();
        whatIsAChange();
        costs();
        syncByItself();
        noSyncUnlessAllElseAllows();
        noRoomAtEverySegments();
        noRoomWithoutSync();
        noRoomWithSync();
        noRoomComesLast();
        roomForWhatDoesNotGrow();
        start();
        outOfRangeComesFirst();
        notDoneChangesNothing();
        nothingToAnswer();
        due.end();
    }

    private static Run some() {
        return Starts.some(due);
    }

    private static Run house() {
        return Starts.house(due, 8, false);
    }

    private static Run fullDirectory() {
        return Starts.fullDirectory(due);
    }

    private static void everyChangeAddsBlocks() {
        due.part("Files and directories kept by appending alone: every change adds blocks to a log");
        Behind.Call[] changes = {
            run -> run.create(0, 9, false, 5),
            run -> run.link(0, 10, 3, DONE),
            run -> run.write(3, 0, 30, DONE),
            run -> run.rename(0, 5, 0, 6, DONE),
            // Also those that make the tree less.
            run -> run.cut(3, 0, DONE),
            run -> run.remove(0, 9, DONE),
            run -> run.remove(0, 6, DONE),
        };
        Run run = some();
        for (Behind.Call change : changes) {
            int kept = run.count(1);
            int done = run.count(2);
            change.on(run);
            due.is("more is kept", run.count(1) > kept ? 1 : 0, 1);
            run.count(2, done + 1);
        }
    }

    private static void syncMakesSafeAndMakesRoom() {
        due.part("a sync makes what is there safe and makes room");
        Run run = Starts.someKept(due, 48);
        String before = run.nodes();
        run.sync(8);
        run.count(1, 8);
        run.crash(0, 0);
        due.same("the tree after sync and crash(0)", run.nodes(), before);
        // The room is for 40 blocks: 12 changes of cost 3 and 2 of cost 2, until a sync is made by itself.
        for (int k = 0; k < 12; k++) {
            run.write(2, 0, k, DONE);
        }
        run.cut(2, 1, DONE);
        run.cut(2, 1, DONE);
        run.counts(8, 48, 14, 2, 5);
        run.cut(2, 1, DONE);
        run.counts(8, 10, 1, 3, 5);
    }

    private static void treeAfterACrash() {
        due.part("after a crash the tree is that of the last sync and the first so many changes since");
        for (int keep = 0; keep <= 3; keep++) {
            Run run = some();
            run.crash(keep, keep);
            run.find(0, 3, 3);
            run.read(3, 1, 31);
            run.find(1, 4, keep >= 1 ? 3 : ABSENT);
            run.find(0, 5, keep >= 2 ? 4 : ABSENT);
            run.read(2, 0, keep >= 3 ? 20 : NONE);
        }
    }

    private static void callsOfOneObject() {
        due.part("An object is used for at most 512 calls after it has been made");
        Run run = new Run(due, 4);
        for (int call = 0; call < 511; call++) {
            run.sync(1);
        }
        run.count(3, 511);
        due.is("calls", run.calls(), 512);
    }

    private static void changesAsTheLastCalls() {
        due.part("An object is used for at most 512 calls after it has been made: changes");
        for (int segments = 4; segments <= 8; segments++) {
            Run run = new Run(due, segments);
            run.create(0, 1, false, 1);
            run.write(1, 0, 0, DONE);
            for (int call = 2; call < 510; call++) {
                run.write(1, 0, call, DONE);
            }
            run.read(1, 0, 509);
            run.cut(1, 0, DONE);
            due.is("calls", run.calls(), 512);
        }
    }

    private static void noNodeBelowOrAbove() {
        due.part("NODES have numbers 0 .. 15.");
        int[] noNodes = {-1, 16, 17, -16, 32, 256, -500, 500, LEAST, MOST};
        for (int no : noNodes) {
            behind.nothing(TermsTest::some,
                    run -> run.create(no, 9, false, REFUSED),
                    run -> run.create(no, 9, true, REFUSED),
                    run -> run.link(no, 9, 2, REFUSED),
                    run -> run.link(0, 9, no, REFUSED),
                    run -> run.remove(no, 3, REFUSED),
                    run -> run.rename(no, 3, 0, 9, REFUSED),
                    run -> run.rename(0, 3, no, 9, REFUSED),
                    run -> run.write(no, 0, 1, REFUSED),
                    run -> run.cut(no, 0, REFUSED),
                    run -> run.find(no, 3, REFUSED),
                    run -> run.entry(no, 0, REFUSED),
                    run -> run.read(no, 0, NONE),
                    run -> run.tell(no, 0, REFUSED),
                    run -> run.tell(no, 1, REFUSED),
                    run -> run.tell(no, 2, REFUSED));
        }
    }

    private static void nodeFifteenAsFile() {
        due.part("NODES have numbers 0 .. 15: the last one, a FILE");
        Run run = some();
        run.write(15, 0, 1, ABSENT);
        run.cut(15, 0, ABSENT);
        run.link(0, 9, 15, ABSENT);
        run.tell(15, 0, 0);
        run = house();
        run.find(1, 6, 15);
        run.tell(15, 0, 1);
        run.tell(15, 1, 0);
        run.tell(15, 2, 1);
        run.write(15, 0, 77, DONE);
        run.read(15, 0, 77);
        run.link(1, 31, 15, DONE);
        run.tell(15, 2, 2);
        run.cut(15, 0, DONE);
        run.remove(1, 6, DONE);
        run.remove(1, 31, DONE);
        run.tell(15, 0, 0);
    }

    private static void nodeFifteenAsDirectory() {
        due.part("NODES have numbers 0 .. 15: the last one, a DIRECTORY");
        Run run = some();
        run.create(15, 0, true, ABSENT);
        run.find(15, 0, ABSENT);
        run.entry(15, 0, ABSENT);
        run = Starts.house(due, 8, true);
        run.tell(15, 0, 2);
        run.link(15, 31, 3, DONE);
        run.find(15, 31, 3);
        run.entry(15, 0, 31);
        run.rename(0, 1, 15, 0, DONE);
        run.find(15, 0, 2);
        run.remove(15, 0, DONE);
        run.create(15, 0, true, 2);
        run.tell(15, 1, 2);
        run.rename(15, 31, 0, 1, DONE);
        run.remove(15, 0, DONE);
        run.entry(15, 0, REFUSED);
        run.remove(1, 6, DONE);
        run.tell(15, 0, 0);
    }

    private static void rootIsAlwaysThere() {
        due.part("Node 0 is the root, a DIRECTORY that is always there.");
        Run run = new Run(due, 4);
        run.tell(0, 0, 2);
        run.crash(1, 0);
        run.tell(0, 0, 2);
        run.create(0, 7, true, 1);
        run.create(1, 7, true, 2);
        run.remove(1, 7, DONE);
        run.remove(0, 7, DONE);
        run.tell(0, 0, 2);
        run.tell(0, 1, 0);
        run.count(4, 1);
        run.crash(0, 0);
        run.tell(0, 0, 2);
        run.sync(1);
        run.tell(0, 0, 2);
        run.create(0, 7, true, 1);
        behind.nothing(TermsTest::some,
                run2 -> run2.write(0, 0, 1, ABSENT),
                run2 -> run2.cut(0, 0, ABSENT),
                run2 -> run2.read(0, 0, NONE));
    }

    private static void nodesAreThereOrNot() {
        due.part("Another node is there or not; it is a FILE or a DIRECTORY.");
        Run run = new Run(due, 8);
        for (int node = 1; node <= 15; node++) {
            run.tell(node, 0, 0);
        }
        run.create(0, 1, false, 1);
        run.create(0, 2, true, 2);
        run.tell(1, 0, 1);
        run.tell(2, 0, 2);
        run.tell(3, 0, 0);
        run.remove(0, 1, DONE);
        run.remove(0, 2, DONE);
        run.tell(1, 0, 0);
        run.tell(2, 0, 0);
        run.create(0, 1, true, 1);
        run.create(0, 2, false, 2);
        run.tell(1, 0, 2);
        run.tell(2, 0, 1);
    }

    private static void entriesByCreate() {
        due.part("A DIRECTORY has at most 8 entries: create");
        Run run = new Run(due, 8);
        run.create(0, 31, true, 1);
        for (int k = 0; k < 8; k++) {
            run.tell(1, 1, k);
            run.create(1, k, k % 2 == 0, k + 2);
        }
        run.tell(1, 1, 8);
        run.create(1, 8, false, FULL);
        run.create(1, 8, true, FULL);
        run.tell(1, 1, 8);
        run.create(0, 8, true, 10);
        run.tell(0, 1, 2);
    }

    private static void entriesByLink() {
        due.part("A DIRECTORY has at most 8 entries: link");
        Run run = new Run(due, 8);
        run.create(0, 31, true, 1);
        run.create(0, 30, false, 2);
        for (int k = 0; k < 8; k++) {
            run.tell(1, 1, k);
            run.link(1, k, 2, DONE);
        }
        run.tell(1, 1, 8);
        run.link(1, 8, 2, FULL);
        run.tell(1, 1, 8);
        run.link(0, 8, 2, DONE);
    }

    private static void entriesByRename() {
        due.part("A DIRECTORY has at most 8 entries: rename");
        Run run = fullDirectory();
        run.create(0, 9, true, 3);
        for (int k = 0; k < 8; k++) {
            run.tell(3, 1, k);
            run.rename(1, k, 3, 31 - k, DONE);
        }
        run.tell(3, 1, 8);
        run.tell(1, 1, 0);
        run.rename(0, 1, 3, 0, FULL);
        run.rename(0, 0, 3, 0, FULL);
        run.tell(3, 1, 8);
        run.tell(0, 1, 3);
    }

    private static void namesAreInRange() {
        due.part("each a name (0 .. 31 ..): the first and the last");
        int[] names = {0, 31};
        for (int name : names) {
            Run run = new Run(due, 8);
            run.create(0, name, true, 1);
            run.create(1, 15, false, 2);
            run.find(0, name, 1);
            run.entry(0, 0, name);
            run.link(1, name, 2, DONE);
            run.find(1, name, 2);
            run.rename(0, name, 0, 31 - name, DONE);
            run.find(0, 31 - name, 1);
            run.rename(1, name, 0, name, DONE);
            run.find(0, name, 2);
            run.remove(0, name, DONE);
            run.find(0, name, ABSENT);
            run.find(1, 15, 2);
        }
    }

    private static void noNameBelowOrAbove() {
        due.part("each a name (0 .. 31 ..): before the first and after the last");
        int[] noNames = {-1, 32, 33, -32, 64, 256, -500, 500, LEAST, MOST};
        // Entries at both ends of both directories: a name that ran over would meet a neighbour's entry.
        Behind.Start start = () -> {
            Run run = some();
            run.link(0, 0, 2, DONE);
            run.link(0, 31, 2, DONE);
            run.link(1, 0, 3, DONE);
            run.link(1, 31, 3, DONE);
            return run;
        };
        for (int no : noNames) {
            for (int dir = 0; dir <= 1; dir++) {
                int in = dir;
                behind.nothing(start,
                        run -> run.create(in, no, false, REFUSED),
                        run -> run.create(in, no, true, REFUSED),
                        run -> run.link(in, no, 2, REFUSED),
                        run -> run.remove(in, no, REFUSED),
                        run -> run.rename(in, no, 4, 9, REFUSED),
                        run -> run.rename(0, 3, in, no, REFUSED),
                        run -> run.find(in, no, REFUSED));
            }
        }
    }

    private static void namesAreNotAlike() {
        due.part("each a name (.. no two alike in it)");
        behind.nothing(TermsTest::some,
                run -> run.create(0, 1, false, EXISTS),
                run -> run.create(0, 3, true, EXISTS),
                run -> run.link(0, 3, 2, EXISTS),
                run -> run.link(1, 4, 3, EXISTS),
                run -> run.rename(0, 3, 0, 1, EXISTS),
                run -> run.rename(0, 5, 1, 4, EXISTS));
        Run run = some();
        run.create(1, 1, false, 5);
        run.link(4, 1, 2, DONE);
        run.rename(0, 3, 4, 3, DONE);
        run.find(0, 1, 1);
        run.find(1, 1, 5);
        run.find(4, 1, 2);
    }

    private static void noEntryWithTheRoot() {
        due.part("each a name .. with a node other than 0");
        behind.nothing(TermsTest::some,
                run -> run.link(0, 9, 0, ABSENT),
                run -> run.link(1, 9, 0, ABSENT));
        Run run = some();
        run.remove(0, 3, DONE);
        run.find(0, 3, ABSENT);
        run.find(4, 0, ABSENT);
        run.remove(4, 0, ABSENT);
        run.rename(4, 0, 0, 9, ABSENT);
        run.create(0, 9, false, 5);
    }

    private static void sizesOfAFile() {
        due.part("A FILE has a size 0 .. 8 and holds so many ints, at the places from 0.");
        for (int size = 0; size <= 8; size++) {
            Run run = Starts.file(due, size);
            run.tell(1, 1, size);
            for (int place = 0; place < 8; place++) {
                run.read(1, place, place < size ? 100 + place : NONE);
            }
            run.read(1, 8, NONE);
            run.read(1, -1, NONE);
            run.count(0, 2 + size);
        }
        Behind.Start eight = () -> {
            Run run = Starts.file(due, 8);
            run.create(0, 2, false, 2);
            run.write(2, 0, 200, DONE);
            return run;
        };
        behind.nothing(eight,
                run -> run.write(1, 8, 1, REFUSED),
                run -> run.write(2, -1, 1, REFUSED),
                run -> run.read(1, 8, NONE),
                run -> run.read(2, -1, NONE),
                run -> run.read(2, 0, 200));
    }

    private static void linksOfAFile() {
        due.part("A FILE's LINKS are the entries with it");
        Run run = new Run(due, 8);
        run.create(0, 0, false, 1);
        run.create(0, 1, true, 2);
        for (int name = 2; name < 8; name++) {
            run.tell(1, 2, name - 1);
            run.link(0, name, 1, DONE);
        }
        for (int name = 0; name < 8; name++) {
            run.tell(1, 2, name + 7);
            run.link(2, name, 1, DONE);
        }
        run.tell(1, 2, 15);
        run.link(2, 8, 1, FULL);
        run.rename(0, 0, 0, 9, DONE);
        run.tell(1, 2, 15);
        run.remove(0, 9, DONE);
        run.tell(1, 2, 14);
        for (int name = 0; name < 8; name++) {
            run.remove(2, name, DONE);
            run.tell(1, 2, 13 - name);
        }
        run.crash(0, 0);
        run.find(0, 2, 1);
    }

    private static void entryOfADirectory() {
        due.part("a DIRECTORY other than the root has one entry in all");
        behind.nothing(TermsTest::some,
                run -> run.link(0, 9, 1, ABSENT),
                run -> run.link(4, 9, 1, ABSENT),
                run -> run.link(4, 9, 4, ABSENT));
        Run run = some();
        run.tell(1, 2, 1);
        run.rename(0, 1, 4, 1, DONE);
        run.tell(1, 2, 1);
        run.find(0, 1, ABSENT);
        run.find(4, 1, 1);
    }

    private static void fileWithoutEntry() {
        due.part("A FILE without an entry is not there any more.");
        Run run = some();
        run.remove(0, 3, DONE);
        run.tell(3, 0, 1);
        run.read(3, 1, 31);
        run.remove(1, 4, DONE);
        run.tell(3, 0, 0);
        run.tell(3, 1, ABSENT);
        run.tell(3, 2, ABSENT);
        run.read(3, 0, NONE);
        run.write(3, 0, 1, ABSENT);
        run.cut(3, 0, ABSENT);
        run.link(0, 9, 3, ABSENT);
        run.count(0, 5);
        run.count(4, 4);
        run.create(0, 3, false, 3);
        run.tell(3, 1, 0);
        run.tell(3, 2, 1);
    }

    private static void liesIn() {
        due.part("A DIRECTORY LIES IN another if it is that one, or the DIRECTORY that has an entry with it LIES IN that one.");
        Behind.Start chain = () -> {
            Run run = new Run(due, 8);
            for (int node = 1; node <= 14; node++) {
                run.create(node - 1, 1, true, node);
            }
            run.create(0, 2, true, 15);
            return run;
        };
        for (int node = 1; node <= 14; node++) {
            for (int to = 0; to <= 15; to++) {
                boolean lies = to >= node && to != 15;
                int moved = node;
                int into = to;
                if (lies) {
                    behind.nothing(chain, run -> run.rename(moved - 1, 1, into, 3, REFUSED));
                } else {
                    Run run = chain.make();
                    run.rename(node - 1, 1, to, 3, DONE);
                    run.find(to, 3, node);
                }
            }
        }
        Run run = chain.make();
        run.rename(0, 2, 14, 1, DONE);
        run.rename(0, 1, 15, 1, REFUSED);
        run.rename(14, 1, 0, 2, DONE);
        run.rename(0, 1, 15, 1, DONE);
        run.rename(0, 2, 14, 1, REFUSED);
    }

    private static void blocks() {
        due.part("A node is one block, and a FILE one more for each of its ints. LIVE is the number of blocks of all nodes that are there.");
        Run run = new Run(due, 8);
        run.count(0, 1);
        run.create(0, 0, true, 1);
        run.count(0, 2);
        run.create(1, 0, false, 2);
        run.count(0, 3);
        for (int place = 0; place < 8; place++) {
            run.write(2, place, 7, DONE);
            run.count(0, 4 + place);
        }
        run.write(2, 7, 8, DONE);
        run.count(0, 11);
        run.link(1, 1, 2, DONE);
        run.count(0, 11);
        run.rename(1, 0, 0, 1, DONE);
        run.count(0, 11);
        run.cut(2, 5, DONE);
        run.count(0, 8);
        run.remove(0, 1, DONE);
        run.count(0, 8);
        run.remove(1, 1, DONE);
        run.count(0, 2);
        run.remove(0, 0, DONE);
        run.count(0, 1);
        run = house();
        run.count(0, 16);
    }

    private static void kept() {
        due.part("KEPT is what LIVE was at the last sync, plus the COSTS of all changes done since.");
        Run run = new Run(due, 8);
        run.count(1, 1);
        run.create(0, 1, false, 1);
        run.count(1, 4);
        run.write(1, 0, 1, DONE);
        run.count(1, 7);
        run.sync(3);
        run.count(1, 3);
        run.cut(1, 0, DONE);
        run.count(1, 5);
        run.remove(0, 1, DONE);
        run.count(1, 7);
        run.count(0, 1);
        run.crash(1, 1);
        run.count(1, 2);
        run.sync(2);
        run.count(1, 2);
    }

    private static void limit() {
        due.part("LIMIT is 8 * (SEGMENTS - 2).");
        for (int segments = 4; segments <= 8; segments++) {
            Run run = new Run(due, segments);
            run.count(5, 8 * (segments - 2));
            run.create(0, 1, true, 1);
            run.sync(2);
            run.count(5, 8 * (segments - 2));
        }
    }

    private static void whatIsAChange() {
        due.part("A change is a call that says so and answers DONE or a node.");
        Run run = some();
        run.count(2, 3);
        run.create(0, 9, false, 5);
        run.count(2, 4);
        run.link(0, 10, 5, DONE);
        run.count(2, 5);
        run.rename(0, 10, 4, 10, DONE);
        run.count(2, 6);
        run.write(5, 0, 1, DONE);
        run.count(2, 7);
        run.cut(5, 0, DONE);
        run.count(2, 8);
        run.remove(4, 10, DONE);
        run.count(2, 9);
        run.remove(0, 9, DONE);
        run.count(2, 10);
        run.crash(10, 10);
        run.count(2, 0);
        behind.nothing(TermsTest::some,
                run2 -> run2.find(0, 1, 1),
                run2 -> run2.find(0, 2, ABSENT),
                run2 -> run2.entry(0, 0, 1),
                run2 -> run2.entry(0, 3, REFUSED),
                run2 -> run2.read(3, 0, 30),
                run2 -> run2.read(3, 2, NONE),
                run2 -> run2.tell(3, 1, 2),
                run2 -> run2.tell(3, 3, REFUSED),
                run2 -> run2.count(0, 8),
                run2 -> run2.count(6, REFUSED));
    }

    private static void costs() {
        due.part("Its COST is 1, plus 1 for each node that it changes or makes, .. plus 1 for each int that it sets.");
        cost(3, run -> run.create(0, 9, false, 5));
        cost(3, run -> run.create(4, 9, true, 5));
        cost(3, run -> run.link(0, 9, 2, DONE));
        cost(3, run -> run.link(1, 9, 3, DONE));
        cost(3, run -> run.remove(0, 3, DONE));
        cost(2, run -> run.remove(1, 2, DONE));
        cost(2, run -> run.remove(0, 5, DONE));
        cost(2, run -> run.rename(0, 3, 0, 9, DONE));
        cost(2, run -> run.rename(0, 1, 0, 9, DONE));
        cost(2, run -> run.rename(1, 2, 1, 9, DONE));
        cost(3, run -> run.rename(0, 3, 4, 9, DONE));
        cost(3, run -> run.rename(1, 2, 0, 9, DONE));
        cost(3, run -> run.rename(0, 1, 4, 9, DONE));
        cost(3, run -> run.write(3, 0, 9, DONE));
        cost(3, run -> run.write(3, 0, 30, DONE));
        cost(3, run -> run.write(3, 2, 9, DONE));
        cost(2, run -> run.cut(3, 2, DONE));
        cost(2, run -> run.cut(3, 1, DONE));
        cost(2, run -> run.cut(3, 0, DONE));
    }

    private static void cost(int cost, Behind.Call change) {
        Run run = some();
        change.on(run);
        run.count(1, 15 + cost);
        run.count(2, 4);
        run.count(3, 1);
    }

    private static void syncByItself() {
        due.part("When all else allows a change, but KEPT and its COST are together more than LIMIT, a sync is made by itself first.");
        syncsAt(3, 1, run -> run.create(0, 9, false, 5));
        syncsAt(3, 1, run -> run.create(0, 9, true, 5));
        syncsAt(3, 0, run -> run.link(0, 9, 2, DONE));
        syncsAt(3, 0, run -> run.remove(0, 3, DONE));
        syncsAt(2, -2, run -> run.remove(1, 2, DONE));
        syncsAt(2, -1, run -> run.remove(0, 5, DONE));
        syncsAt(2, 0, run -> run.rename(0, 3, 0, 9, DONE));
        syncsAt(2, 0, run -> run.rename(0, 1, 0, 9, DONE));
        syncsAt(3, 0, run -> run.rename(0, 3, 4, 9, DONE));
        syncsAt(3, 0, run -> run.rename(0, 1, 4, 9, DONE));
        syncsAt(3, 0, run -> run.write(3, 0, 9, DONE));
        syncsAt(3, 1, run -> run.write(3, 2, 9, DONE));
        syncsAt(2, 0, run -> run.cut(3, 2, DONE));
        syncsAt(2, -1, run -> run.cut(3, 1, DONE));
    }

    /** With KEPT and the cost together just LIMIT there is no sync; with 1 more there is one, before the change. */
    private static void syncsAt(int cost, int growth, Behind.Call change) {
        Run just = Starts.someKept(due, 48 - cost);
        int changes = just.count(2);
        change.on(just);
        just.counts(8 + growth, 48, changes + 1, 1, just.count(4));
        just.crash(0, 0);
        just.count(0, 6);
        for (int above = 1; above <= cost; above++) {
            Run run = Starts.someKept(due, 48 - cost + above);
            run.count(1, 48 - cost + above);
            change.on(run);
            run.counts(8 + growth, 8 + cost, 1, 2, run.count(4));
            run.crash(0, 0);
            due.same("the tree after crash(0)", run.nodes(), some().nodes());
        }
    }

    private static void noSyncUnlessAllElseAllows() {
        due.part("When all else allows a change, ..: what is not allowed makes no sync");
        behind.nothing(() -> Starts.someKept(due, 48),
                run -> run.create(16, 9, false, REFUSED),
                run -> run.create(0, 32, false, REFUSED),
                run -> run.create(2, 9, false, ABSENT),
                run -> run.create(0, 3, false, EXISTS),
                run -> run.link(0, 32, 2, REFUSED),
                run -> run.link(0, 9, 4, ABSENT),
                run -> run.link(0, 3, 2, EXISTS),
                run -> run.remove(0, -1, REFUSED),
                run -> run.remove(0, 9, ABSENT),
                run -> run.remove(0, 1, NOT_EMPTY),
                run -> run.rename(0, 3, 0, 32, REFUSED),
                run -> run.rename(0, 9, 0, 10, ABSENT),
                run -> run.rename(0, 3, 0, 3, EXISTS),
                run -> run.rename(0, 1, 1, 9, REFUSED),
                run -> run.write(3, 8, 1, REFUSED),
                run -> run.write(4, 0, 1, ABSENT),
                run -> run.write(3, 3, 1, REFUSED),
                run -> run.cut(3, 9, REFUSED),
                run -> run.cut(4, 0, ABSENT),
                run -> run.cut(3, 3, REFUSED));
        behind.nothing(() -> {
            Run run = house();
            run.cut(2, 0, DONE);
            run.count(1, 48);
            return run;
        },
                run -> run.create(0, 9, false, FULL),
                run -> run.create(1, 9, true, FULL),
                run -> run.link(0, 9, 9, FULL),
                run -> run.rename(1, 0, 0, 9, FULL));
    }

    private static void noRoomAtEverySegments() {
        due.part("what LIVE would be after the change is more than LIMIT - 8: the change is not done: NO_ROOM");
        for (int segments = 4; segments <= 8; segments++) {
            int of = segments;
            behind.nothing(() -> Starts.atMost(due, of),
                    run -> run.create(1, 9, false, NO_ROOM),
                    run -> run.create(1, 9, true, NO_ROOM),
                    run -> run.create(0, 9, false, NO_ROOM),
                    run -> run.write(2, 0, 9, NO_ROOM));
            theLastBlockFits(segments, run -> run.create(1, 9, false, run.count(4)));
            theLastBlockFits(segments, run -> run.create(1, 9, true, run.count(4)));
            theLastBlockFits(segments, run -> run.write(2, 0, 9, DONE));
        }
    }

    private static void theLastBlockFits(int segments, Behind.Call change) {
        int most = 8 * (segments - 2) - 8;
        Run run = Starts.atMost(due, segments);
        run.cut(3, Math.min(8, most - 4) - 1, DONE);
        run.count(0, most - 1);
        change.on(run);
        run.count(0, most);
        run.create(1, 10, false, NO_ROOM);
        run.create(1, 10, true, NO_ROOM);
        run.write(3, Math.min(8, most - 4) - 1, 9, NO_ROOM);
        run.count(0, most);
    }

    /** LIVE is LIMIT - 8, and so many blocks more than that are KEPT. */
    private static Run atMost(int segments, int more) {
        Run run = Starts.atMost(due, segments);
        int left = more;
        if (left % 2 == 1) {
            run.write(3, 0, 9, DONE);
            left -= 3;
        }
        for (; left > 0; left -= 2) {
            run.cut(2, 0, DONE);
        }
        run.count(0, run.count(5) - 8);
        run.count(1, run.count(5) - 8 + more);
        return run;
    }

    private static void noRoomWithoutSync() {
        due.part("Then, with or without it: .. NO_ROOM: without a sync, KEPT and COST are together just LIMIT");
        for (int segments = 4; segments <= 8; segments++) {
            int of = segments;
            behind.nothing(() -> atMost(of, 5),
                    run -> run.create(1, 9, false, NO_ROOM),
                    run -> run.create(1, 9, true, NO_ROOM),
                    run -> run.write(2, 0, 9, NO_ROOM));
        }
    }

    private static void noRoomWithSync() {
        due.part("NO_ROOM (a sync that was made stays made).");
        for (int segments = 4; segments <= 8; segments++) {
            for (int more = 6; more <= 8; more++) {
                int of = segments;
                int above = more;
                behind.aSync(() -> atMost(of, above),
                        run -> run.create(1, 9, false, NO_ROOM),
                        run -> run.create(1, 9, true, NO_ROOM),
                        run -> run.write(2, 0, 9, NO_ROOM));
                Run run = atMost(segments, more);
                int syncs = run.count(3);
                run.write(2, 0, 9, NO_ROOM);
                run.count(3, syncs + 1);
                run.write(2, 0, 9, NO_ROOM);
                run.count(3, syncs + 1);
            }
        }
    }

    private static void noRoomComesLast() {
        due.part("When all else allows a change, ..: NO_ROOM comes last");
        for (int more = 0; more <= 8; more += 8) {
            int of = more;
            behind.nothing(() -> atMost(8, of),
                    run -> run.create(16, 9, false, REFUSED),
                    run -> run.create(1, 32, false, REFUSED),
                    run -> run.create(2, 9, false, ABSENT),
                    run -> run.create(0, 1, false, EXISTS),
                    run -> run.write(2, 8, 1, REFUSED),
                    run -> run.write(1, 0, 1, ABSENT),
                    run -> run.write(2, 1, 1, REFUSED),
                    run -> run.write(3, 8, 1, REFUSED));
            // With 5 segments LIMIT - 8 is 16, which all nodes without an int fill.
            behind.nothing(() -> {
                Run run = Starts.house(due, 5, false);
                run.sync(16);
                for (int left = of; left > 0; left -= 2) {
                    run.cut(2, 0, DONE);
                }
                run.count(1, 16 + of);
                return run;
            },
                    run -> run.create(0, 9, false, FULL),
                    run -> run.create(1, 9, true, FULL));
        }
    }

    private static void roomForWhatDoesNotGrow() {
        due.part("what LIVE would be after the change is more than LIMIT - 8: no other change is without room");
        for (int segments = 4; segments <= 8; segments++) {
            for (int more = 0; more <= 8; more += 4) {
                int most = 8 * (segments - 2) - 8;
                hasRoom(atMost(segments, more), most, run -> run.link(1, 9, 2, DONE));
                hasRoom(atMost(segments, more), most - 1, run -> run.remove(0, 0, DONE));
                hasRoom(atMost(segments, more), most - 1, run -> run.remove(0, 1, DONE));
                hasRoom(atMost(segments, more), most, run -> run.rename(0, 1, 0, 9, DONE));
                hasRoom(atMost(segments, more), most, run -> run.rename(0, 1, 1, 9, DONE));
                hasRoom(atMost(segments, more), most, run -> run.write(3, 3, 9, DONE));
                hasRoom(atMost(segments, more), most, run -> run.cut(2, 0, DONE));
                hasRoom(atMost(segments, more), most - Math.min(8, most - 4), run -> run.cut(3, 0, DONE));
            }
        }
        Run run = atMost(8, 0);
        run.link(1, 9, 2, DONE);
        run.remove(0, 1, DONE);
        run.count(0, 40);
    }

    private static void hasRoom(Run run, int live, Behind.Call change) {
        change.on(run);
        run.count(0, live);
    }

    private static void start() {
        due.part("At the start there is the root alone, LIVE and KEPT are 1, as after a sync (which is not counted).");
        for (int segments = 4; segments <= 8; segments++) {
            Run run = new Run(due, segments);
            run.counts(1, 1, 0, 0, 1);
            due.same("the tree", run.nodes(), "; node 0 kind 2 links 0 entries");
            run.crash(1, 0);
            run.counts(1, 1, 0, 0, 1);
            run.create(0, 0, true, 1);
            run.create(0, 1, true, 2);
            run.crash(0, 0);
            run.counts(1, 1, 0, 0, 1);
            due.same("the tree", run.nodes(), "; node 0 kind 2 links 0 entries");
            run.sync(1);
            run.counts(1, 1, 0, 1, 1);
        }
    }

    private static void outOfRangeComesFirst() {
        due.part("In each call numbers out of range are REFUSED, then what is said ..");
        behind.nothing(TermsTest::some,
                run -> run.create(2, 32, false, REFUSED),
                run -> run.create(15, -1, true, REFUSED),
                run -> run.create(16, 1, true, REFUSED),
                run -> run.link(2, 32, 3, REFUSED),
                run -> run.link(0, -1, 4, REFUSED),
                run -> run.link(15, 9, 16, REFUSED),
                run -> run.link(0, 3, 16, REFUSED),
                run -> run.link(16, 9, 4, REFUSED),
                run -> run.remove(2, 32, REFUSED),
                run -> run.remove(15, -1, REFUSED),
                run -> run.remove(-1, 1, REFUSED),
                run -> run.rename(2, 32, 0, 9, REFUSED),
                run -> run.rename(2, 2, 0, 32, REFUSED),
                run -> run.rename(0, 9, 0, -1, REFUSED),
                run -> run.rename(0, 9, 16, 9, REFUSED),
                run -> run.rename(15, 9, -1, 9, REFUSED),
                run -> run.rename(-1, 9, 2, 9, REFUSED),
                run -> run.write(4, 8, 1, REFUSED),
                run -> run.write(4, 9, 1, REFUSED),
                run -> run.write(15, MOST, 1, REFUSED),
                run -> run.write(15, -1, 1, REFUSED),
                run -> run.write(0, LEAST, 1, REFUSED),
                run -> run.cut(4, 9, REFUSED),
                run -> run.cut(15, MOST, REFUSED),
                run -> run.cut(15, -1, REFUSED),
                run -> run.cut(0, LEAST, REFUSED),
                run -> run.find(2, 32, REFUSED),
                run -> run.find(15, -1, REFUSED),
                run -> run.entry(16, -1, REFUSED),
                run -> run.tell(15, 3, REFUSED),
                run -> run.tell(15, -1, REFUSED),
                run -> run.tell(16, 3, REFUSED));
        behind.nothing(TermsTest::house,
                run -> run.create(0, 32, false, REFUSED),
                run -> run.create(1, -1, true, REFUSED),
                run -> run.link(0, 32, 9, REFUSED),
                run -> run.rename(1, 0, 0, 32, REFUSED));
        due.part("In each call .. what is said in the order in which it is said.");
        behind.nothing(TermsTest::some,
                run -> run.link(0, 3, 4, ABSENT),
                run -> run.link(0, 3, 15, ABSENT),
                run -> run.rename(0, 9, 0, 3, ABSENT),
                run -> run.rename(2, 3, 0, 3, ABSENT),
                run -> run.rename(0, 9, 0, 9, ABSENT),
                run -> run.rename(0, 1, 1, 2, EXISTS),
                run -> run.write(4, 7, 1, ABSENT),
                run -> run.write(15, 1, 1, ABSENT),
                run -> run.cut(4, 8, ABSENT),
                run -> run.cut(15, 1, ABSENT),
                run -> run.entry(2, -1, ABSENT),
                run -> run.entry(15, 8, ABSENT));
        behind.nothing(TermsTest::house,
                run -> run.create(2, 9, false, ABSENT),
                run -> run.create(0, 0, false, EXISTS),
                run -> run.create(1, 6, true, EXISTS),
                run -> run.link(0, 9, 1, ABSENT),
                run -> run.link(0, 0, 9, EXISTS),
                run -> run.rename(1, 9, 0, 9, ABSENT),
                run -> run.rename(1, 0, 0, 0, EXISTS));
        behind.nothing(TermsTest::fullDirectory,
                run -> run.rename(0, 0, 1, 7, EXISTS),
                run -> run.rename(0, 0, 1, 8, REFUSED),
                run -> run.rename(0, 1, 1, 8, FULL));
    }

    private static void notDoneChangesNothing() {
        due.part("A call that is not done changes nothing, but for a sync made by itself.");
        behind.nothing(TermsTest::some,
                run -> run.create(0, 32, false, REFUSED),
                run -> run.create(3, 9, true, ABSENT),
                run -> run.create(1, 2, true, EXISTS),
                run -> run.link(0, 32, 2, REFUSED),
                run -> run.link(3, 9, 2, ABSENT),
                run -> run.link(1, 2, 3, EXISTS),
                run -> run.remove(0, 32, REFUSED),
                run -> run.remove(1, 3, ABSENT),
                run -> run.remove(0, 1, NOT_EMPTY),
                run -> run.rename(0, 32, 0, 9, REFUSED),
                run -> run.rename(0, 4, 1, 9, ABSENT),
                run -> run.rename(0, 3, 1, 4, EXISTS),
                run -> run.rename(0, 5, 4, 9, REFUSED),
                run -> run.write(3, 3, 9, REFUSED),
                run -> run.write(3, 8, 9, REFUSED),
                run -> run.write(1, 0, 9, ABSENT),
                run -> run.cut(3, 3, REFUSED),
                run -> run.cut(3, -1, REFUSED),
                run -> run.cut(1, 0, ABSENT));
        behind.nothing(TermsTest::house,
                run -> run.create(0, 9, false, FULL),
                run -> run.create(1, 9, false, FULL),
                run -> run.link(0, 9, 9, FULL),
                run -> run.rename(1, 0, 0, 9, FULL));
        behind.nothing(() -> atMost(8, 3),
                run -> run.create(1, 9, false, NO_ROOM),
                run -> run.write(2, 0, 9, NO_ROOM));
        behind.aSync(() -> atMost(8, 6),
                run -> run.create(1, 9, false, NO_ROOM),
                run -> run.write(2, 0, 9, NO_ROOM));
    }

    private static void nothingToAnswer() {
        due.part("NONE = 1000000000000L: There is nothing to answer.");
        due.is("NONE", NONE, 1000000000000L);
        int[] values = {LEAST, -1, 0, 1, MOST, (int) NONE};
        Run run = Starts.file(due, 1);
        for (int value : values) {
            run.write(1, 0, value, DONE);
            run.read(1, 0, value);
            run.read(1, 1, 1000000000000L);
        }
    }
}
