/** Trees that several tests start from. */
final class Starts {
    private static final int DONE = AppendOnlyTree.DONE;

    private Starts() {
    }

    /**
     * The root has the directories 1 (name 1) and 4 (name 5, empty) and the file 3 (name 3: 30, 31); directory 1
     * has the file 2 (name 2: 20) and the file 3 (name 4). The last three changes came after a sync.
     * LIMIT 48, LIVE 8, KEPT 15.
     */
    static Run some(Due due) {
        Run run = new Run(due, 8);
        run.create(0, 1, true, 1);
        run.create(1, 2, false, 2);
        run.create(0, 3, false, 3);
        run.write(3, 0, 30, DONE);
        run.write(3, 1, 31, DONE);
        run.sync(6);
        run.link(1, 4, 3, DONE);
        run.create(0, 5, true, 4);
        run.write(2, 0, 20, DONE);
        return run;
    }

    /** The same tree with KEPT brought to that number, which is not 16, by setting ints and cutting nothing off. */
    static Run someKept(Due due, int kept) {
        Run run = some(due);
        int left = kept - 15;
        while (left > 0) {
            if (left == 2 || left == 4) {
                run.cut(2, 1, DONE);
                left -= 2;
            } else {
                run.write(2, 0, 20, DONE);
                left -= 3;
            }
        }
        return run;
    }

    /**
     * All 16 nodes, each of one block: the root has 8 entries (name 0: directory 1, names 1 .. 7: files 2 .. 8),
     * directory 1 has 7 (names 0 .. 6: files 9 .. 14 and node 15). LIVE 16; with 8 segments KEPT is 46 and no sync
     * has been made.
     */
    static Run house(Due due, int segments, boolean lastIsDirectory) {
        Run run = new Run(due, segments);
        run.create(0, 0, true, 1);
        for (int name = 1; name <= 7; name++) {
            run.create(0, name, false, name + 1);
        }
        for (int name = 0; name <= 6; name++) {
            run.create(1, name, name == 6 && lastIsDirectory, name + 9);
        }
        return run;
    }

    /** A directory 1 (name 0 in the root) with 8 entries (names 0 .. 7) for the file 2 (name 1 in the root). LIMIT 48. */
    static Run fullDirectory(Due due) {
        Run run = new Run(due, 8);
        run.create(0, 0, true, 1);
        run.create(0, 1, false, 2);
        for (int name = 0; name <= 7; name++) {
            run.link(1, name, 2, DONE);
        }
        return run;
    }

    /** A file 1 (name 1 in the root) with the ints 100 .. and the number of them that is asked for; LIMIT 48. */
    static Run file(Due due, int size) {
        Run run = new Run(due, 8);
        run.create(0, 1, false, 1);
        for (int place = 0; place < size; place++) {
            run.write(1, place, 100 + place, DONE);
        }
        return run;
    }

    /**
     * LIVE is LIMIT - 8 and a sync has just been made: the root, an empty directory 1 (name 0), an empty file 2
     * (name 1) and files with as many ints as there is room for, from file 3 (name 2) on.
     */
    static Run atMost(Due due, int segments) {
        Run run = new Run(due, segments);
        int most = 8 * (segments - 2) - 8;
        run.create(0, 0, true, 1);
        run.create(0, 1, false, 2);
        int live = 3;
        for (int file = 3; live < most; file++) {
            run.create(0, file - 1, false, file);
            live++;
            for (int place = 0; place < 8 && live < most; place++) {
                run.write(file, place, 100 * file + place, DONE);
                live++;
            }
        }
        run.sync(most);
        return run;
    }
}
