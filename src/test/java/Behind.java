/** What stands behind a call: looked at right after it, and after a crash that keeps any number of changes. */
final class Behind {
    interface Start {
        Run make();
    }

    interface Call {
        void on(Run run);
    }

    private final Due due;

    Behind(Due due) {
        this.due = due;
    }

    /** Each call alone, on a start of its own, leaves all as it was. */
    void nothing(Start start, Call... calls) {
        for (Call call : calls) {
            same(start, call, run -> { });
        }
    }

    /** Each call alone, on a start of its own, leaves all as a sync does. */
    void aSync(Start start, Call... calls) {
        for (Call call : calls) {
            same(start, call, run -> run.sync(run.count(0)));
        }
    }

    private void same(Start start, Call call, Call other) {
        due.same("all that can be asked", after(start, call).look(), after(start, other).look());
        int changes = start.make().count(2);
        for (int keep = 0; keep <= changes + 1; keep++) {
            Run run = after(start, call);
            Run otherRun = after(start, other);
            due.is("crash(" + keep + ")", run.crash(keep), otherRun.crash(keep));
            due.same("all that can be asked after crash(" + keep + ")", run.look(), otherRun.look());
        }
    }

    private static Run after(Start start, Call call) {
        Run run = start.make();
        call.on(run);
        return run;
    }
}
