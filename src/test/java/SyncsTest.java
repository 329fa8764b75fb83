/** The sentences of promises 1, 8 and 9 (a new object, sync, crash), each with a test of its own. */
public final class SyncsTest {
    private static final int DONE = AppendOnlyTree.DONE;
    private static final int REFUSED = AppendOnlyTree.REFUSED;
    private static final int ABSENT = AppendOnlyTree.ABSENT;
    private static final int NO_ROOM = AppendOnlyTree.NO_ROOM;

    private static final int LEAST = Integer.MIN_VALUE;
    private static final int MOST = Integer.MAX_VALUE;

    /** Changes that may follow Starts.some, of every kind, some of them undoing others; together they cost 27. */
    private static final Behind.Call[] CHANGES = {
        run -> run.link(0, 9, 2, DONE),
        run -> run.remove(1, 2, DONE),
        run -> run.rename(0, 1, 4, 1, DONE),
        run -> run.cut(3, 1, DONE),
        run -> run.remove(0, 9, DONE),
        run -> run.create(0, 2, true, 2),
        run -> run.write(3, 1, 99, DONE),
        run -> run.rename(4, 1, 2, 31, DONE),
        run -> run.remove(0, 5, DONE),
        run -> run.create(1, 0, false, 4),
    };

    private static final Due due = new Due();
    private static final Behind behind = new Behind(due);

    public static void main(String[] args) {
        segmentsAreClamped();
        clampedObjectsAreAlike();
        newObjectsAreApart();
        syncAnswersKept();
        syncOfNothing();
        syncOfAllThatHasRoom();
        syncMakesSafe();
        syncsAreCounted();
        crashKeepsTheFirstChanges();
        crashKeepsNone();
        crashKeepsAll();
        crashOfNoChanges();
        crashAfterASyncByItself();
        crashIsAsASync();
        crashIsCountedAsNone();
        crashMakesRoom();
        crashOfAsManyChangesAsThereCanBe();
        crashAnswersHowMany();
        due.end();
    }

    private static Run some() {
        return Starts.some(due);
    }

    private static Run synced() {
        Run run = some();
        run.sync(8);
        return run;
    }

    /** A sync, and then the first so many of the changes. */
    private static Run changed(int changes) {
        Run run = synced();
        for (int k = 0; k < changes; k++) {
            CHANGES[k].on(run);
        }
        run.count(2, changes);
        return run;
    }

    private static void segmentsAreClamped() {
        due.part("1: segments: SEGMENTS, clamped to 4 .. 8.");
        int[] few = {LEAST, LEAST + 1, -8, -1, 0, 1, 2, 3, 4};
        int[] many = {8, 9, 10, 16, 1 << 28, MOST - 1, MOST};
        for (int segments : few) {
            new Run(due, segments).count(5, 16);
        }
        for (int segments : many) {
            new Run(due, segments).count(5, 48);
        }
        new Run(due, 5).count(5, 24);
        new Run(due, 6).count(5, 32);
        new Run(due, 7).count(5, 40);
    }

    private static void clampedObjectsAreAlike() {
        due.part("1: segments: SEGMENTS, clamped to 4 .. 8: what fits, and when a sync is made by itself");
        int[] segments = {LEAST, 0, 3, 4, 5, 6, 7, 8, 9, MOST};
        int[] limits = {16, 16, 16, 16, 24, 32, 40, 48, 48, 48};
        for (int i = 0; i < segments.length; i++) {
            Run run = new Run(due, segments[i]);
            run.create(0, 0, false, 1);
            int kept = 4;
            while (kept + 2 <= limits[i]) {
                run.cut(1, 0, DONE);
                kept += 2;
            }
            run.count(1, limits[i]);
            run.count(3, 0);
            run.cut(1, 0, DONE);
            run.count(3, 1);
            int live = 2;
            for (int file = 1; live < limits[i] - 8; file++) {
                for (int place = 0; place < 8 && live < limits[i] - 8; place++) {
                    run.write(file, place, 5, DONE);
                    live++;
                }
                if (live < limits[i] - 8) {
                    run.create(0, file, false, file + 1);
                    live++;
                }
            }
            run.count(0, limits[i] - 8);
            run.create(0, 31, false, NO_ROOM);
        }
    }

    private static void newObjectsAreApart() {
        due.part("1: A new object: nothing of another one");
        Run one = some();
        Run other = new Run(due, 4);
        other.counts(1, 1, 0, 0, 1);
        other.create(0, 1, false, 1);
        other.write(1, 0, 9, DONE);
        other.sync(3);
        other.crash(0, 0);
        due.same("all of the one", one.look(), some().look());
        one.crash(0, 0);
        other.counts(3, 3, 0, 1, 2);
        other.count(5, 16);
        other.read(1, 0, 9);
    }

    private static void syncAnswersKept() {
        due.part("8: A sync: answers KEPT after it.");
        Run run = some();
        run.counts(8, 15, 3, 1, 5);
        run.sync(8);
        run.counts(8, 8, 0, 2, 5);
        run.remove(0, 5, DONE);
        run.counts(7, 10, 1, 2, 4);
        run.sync(7);
        run.counts(7, 7, 0, 3, 4);
    }

    private static void syncOfNothing() {
        due.part("8: A sync: answers KEPT after it: nothing there, nothing changed");
        Run run = new Run(due, 4);
        run.sync(1);
        run.counts(1, 1, 0, 1, 1);
        run.sync(1);
        run.counts(1, 1, 0, 2, 1);
        run = synced();
        run.sync(8);
        run.sync(8);
        run.counts(8, 8, 0, 4, 5);
    }

    private static void syncOfAllThatHasRoom() {
        due.part("8: A sync: answers KEPT after it: LIVE is LIMIT - 8");
        for (int segments = 4; segments <= 8; segments++) {
            Run run = Starts.atMost(due, segments);
            int most = 8 * (segments - 2) - 8;
            run.link(1, 9, 2, DONE);
            run.sync(most);
            run.count(0, most);
            run.count(1, most);
        }
        Run run = Starts.house(due, 8, false);
        run.sync(16);
        run.count(1, 16);
    }

    private static void syncMakesSafe() {
        due.part("8: A sync: no crash goes behind it");
        for (int changes = 0; changes <= CHANGES.length; changes++) {
            Run run = changed(changes);
            run.sync(run.count(0));
            String before = run.nodes();
            run.crash(0, 0);
            due.same("the tree after crash(0)", run.nodes(), before);
            run.link(0, 20, 3, DONE);
            run.crash(0, 0);
            due.same("the tree after another crash(0)", run.nodes(), before);
        }
    }

    private static void syncsAreCounted() {
        due.part("8: A sync: what it is asked for and what is made by itself are counted alike");
        Run run = Starts.someKept(due, 48);
        run.count(3, 1);
        run.write(2, 0, 9, DONE);
        run.count(3, 2);
        run.sync(8);
        run.count(3, 3);
    }

    private static void crashKeepsTheFirstChanges() {
        due.part("9: Everything becomes as it was after the first keep changes done since the last sync");
        for (int changes = 0; changes <= CHANGES.length; changes++) {
            for (int keep = 0; keep <= changes; keep++) {
                Run run = changed(changes);
                run.crash(keep, keep);
                due.same("the tree after crash(" + keep + ")", run.nodes(), changed(keep).nodes());
            }
        }
    }

    private static void crashKeepsNone() {
        due.part("9: (right after the sync for 0; keep below 0 counts as 0, ..)");
        int[] keeps = {0, -1, -2, -100, LEAST};
        for (int keep : keeps) {
            Run run = changed(CHANGES.length);
            run.crash(keep, 0);
            due.same("all after crash(" + keep + ")", run.look(), synced().look());
        }
    }

    private static void crashKeepsAll() {
        due.part("9: (.. keep .. above their number as that)");
        int all = CHANGES.length;
        int[] keeps = {all, all + 1, all + 2, 1000, MOST};
        for (int keep : keeps) {
            Run run = changed(all);
            run.crash(keep, all);
            due.same("the tree after crash(" + keep + ")", run.nodes(), changed(all).nodes());
        }
    }

    private static void crashOfNoChanges() {
        due.part("9: the first keep changes done since the last sync: there are none");
        int[] keeps = {LEAST, -1, 0, 1, MOST};
        for (int keep : keeps) {
            behind.nothing(SyncsTest::synced, run -> run.crash(keep, 0));
            behind.nothing(() -> new Run(due, 4), run -> run.crash(keep, 0));
        }
    }

    private static void crashAfterASyncByItself() {
        due.part("9: .. since the last sync: one made by itself");
        for (int keep = -1; keep <= 3; keep++) {
            Run run = Starts.someKept(due, 48);
            run.write(3, 0, 1, DONE);
            run.count(3, 2);
            run.write(3, 0, 2, DONE);
            int kept = Math.max(0, Math.min(2, keep));
            run.crash(keep, kept);
            run.read(3, 0, kept == 0 ? 30 : kept);
            run.find(1, 4, 3);
            run.counts(8, 8, 0, 2, 5);
        }
        // Also where the change that it was made for had no room.
        Run run = Starts.atMost(due, 4);
        run.cut(2, 0, DONE);
        run.write(3, 0, 1, DONE);
        run.write(3, 0, 2, DONE);
        run.create(1, 0, false, NO_ROOM);
        run.crash(9, 0);
        run.read(3, 0, 2);
    }

    private static void crashIsAsASync() {
        due.part("9: and that is then as after a sync ..");
        for (int keep = 0; keep <= CHANGES.length; keep++) {
            Run run = changed(CHANGES.length);
            run.crash(keep, keep);
            String after = run.nodes();
            run.count(1, run.count(0));
            run.count(2, 0);
            run.crash(keep, 0);
            due.same("the tree after a second crash", run.nodes(), after);
            run.link(0, 20, 3, DONE);
            run.count(1, run.count(0) + 3);
            run.count(2, 1);
            run.crash(0, 0);
            due.same("the tree after a change and crash(0)", run.nodes(), after);
        }
    }

    private static void crashIsCountedAsNone() {
        due.part("9: (counted as none)");
        Run run = new Run(due, 8);
        run.crash(0, 0);
        run.count(3, 0);
        run.create(0, 0, true, 1);
        run.crash(1, 1);
        run.count(3, 0);
        run.create(0, 1, true, 2);
        run.crash(0, 0);
        run.count(3, 0);
        run.sync(2);
        run.crash(0, 0);
        run.count(3, 1);
    }

    private static void crashMakesRoom() {
        due.part("9: and that is then as after a sync: KEPT is LIVE, so that no sync is made by itself");
        Run run = Starts.someKept(due, 48);
        run.crash(MOST, 14);
        run.counts(8, 8, 0, 1, 5);
        run.write(2, 0, 9, DONE);
        run.counts(8, 11, 1, 1, 5);
        run = Starts.someKept(due, 48);
        run.crash(LEAST, 0);
        run.counts(6, 6, 0, 1, 4);
        run.write(2, 0, 9, DONE);
        run.counts(7, 9, 1, 1, 4);
    }

    private static void crashOfAsManyChangesAsThereCanBe() {
        due.part("9: the first keep changes: as many as LIMIT allows");
        // Of 48 the root has one block, the file's making costs 3 and each rename 2: 22 renames.
        for (int keep = 0; keep <= 24; keep++) {
            Run run = new Run(due, 8);
            run.create(0, 0, false, 1);
            for (int k = 0; k < 22; k++) {
                run.rename(0, k, 0, k + 1, DONE);
            }
            run.counts(2, 48, 23, 0, 2);
            run.crash(keep, Math.min(keep, 23));
            run.entry(0, 0, keep == 0 ? REFUSED : Math.min(keep, 23) - 1);
            run.find(0, 22, keep >= 23 ? 1 : ABSENT);
        }
    }

    private static void crashAnswersHowMany() {
        due.part("9: Answers how many changes were kept.");
        for (int changes = 0; changes <= CHANGES.length; changes++) {
            for (int keep = -2; keep <= changes + 2; keep++) {
                changed(changes).crash(keep, keep < 0 ? 0 : keep > changes ? changes : keep);
            }
        }
        // Calls that were not done are none of the changes.
        Run run = changed(3);
        run.create(0, 5, false, AppendOnlyTree.EXISTS);
        run.remove(0, 20, ABSENT);
        run.cut(3, 8, REFUSED);
        run.crash(MOST, 3);
    }
}
