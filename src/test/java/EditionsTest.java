/** Promises 20 to 22: the changes of editions, and undo. */
public final class EditionsTest {
    // What the steps of promise22RestoresAll answer.
    private static final int[] ANSWERS = {3, 3, 50, 0, 1, 1, 1, 2, 0, 2, 0, 2, 2, 1, 0, 1, 1, 0, 0, 1, 0, 2, 0, 1, 2, 0,
        1, 0, 3};

    public static void main(String[] args) {
        promise20Changes();
        promise21Change();
        promise21OfSeveralTheFirst();
        promise21LatestResolution();
        promise22Undo();
        promise22FourStates();
        promise22ErrorsAndAnswersLeaveNoState();
        promise22TextStays();
        promise22OfAnOpening();
        promise22OfResolutions();
        promise22RestoresAll();
        Check.end("EditionsTest");
    }

    private static void promise20Changes() {
        CommitteeBallots x = twoEditions();
        Check.due("edition 1", 0, x.changes(1));
        Check.due("edition 2", 2, x.changes(2));
        Check.due("edition 3", 1, x.changes(3));
        Check.due("edition 0", Check.INVALID, x.changes(0));
        Check.due("edition 4", Check.INVALID, x.changes(4));
        for (int far : Check.far()) {
            Check.due("edition far out of range", Check.INVALID, x.changes(far));
        }
        x.appeal(0, 0, 7);
        Check.due("gone back", Check.INVALID, x.changes(3));
        Check.due("the one before", 2, x.changes(2));
    }

    private static void promise21Change() {
        CommitteeBallots x = twoEditions();
        tells(x, 2, 0, 10, 1, 2);
        tells(x, 2, 1, 30, 1, 0);
        tells(x, 3, 0, 30, 3, 0);
        for (int what = 0; what < 3; what++) {
            Check.due("edition 1 has none", Check.NOT_FOUND, x.change(1, 0, what));
            Check.due("not so many in edition 2", Check.NOT_FOUND, x.change(2, 2, what));
            Check.due("not so many in edition 3", Check.NOT_FOUND, x.change(3, 1, what));
            Check.due("edition 0", Check.INVALID, x.change(0, 0, what));
            Check.due("edition 4", Check.INVALID, x.change(4, 0, what));
            Check.due("index -1", Check.INVALID, x.change(2, -1, what));
            Check.due("the greatest index", Check.NOT_FOUND, x.change(2, Integer.MAX_VALUE, what));
            Check.due("the least index", Check.INVALID, x.change(2, Integer.MIN_VALUE, what));
        }
        Check.due("property -1", Check.INVALID, x.change(2, 0, -1));
        Check.due("property 3", Check.INVALID, x.change(2, 0, 3));
        Check.due("range before what is found", Check.INVALID, x.change(2, 9, 3));
        for (int far : Check.far()) {
            Check.due("edition far out of range", Check.INVALID, x.change(far, 0, 0));
            Check.due("property far out of range", Check.INVALID, x.change(2, 0, far));
        }
    }

    /** Ballot 1 changes clauses 10 and 30, ballot 2 is not carried, ballot 3 changes 30 back. */
    private static CommitteeBallots twoEditions() {
        CommitteeBallots x = Check.inBallot();
        x.comment(0, 30, Check.TECHNICAL, 301);
        x.comment(0, 20, Check.TECHNICAL, 201);
        x.comment(0, 10, Check.TECHNICAL, 101);
        Check.carry(x);
        x.resolve(Check.ACCEPT, 0);
        x.resolve(Check.REJECT, 0);
        x.resolve(Check.ACCEPT, 0);
        x.open();
        x.comment(0, 20, Check.TECHNICAL, 299);
        Check.finish(x);
        x.open();
        x.comment(0, 30, Check.EDITORIAL, 300);
        Check.carry(x);
        x.resolve(Check.ACCEPT, 0);
        return x;
    }

    private static void tells(CommitteeBallots x, int edition, int index, int... due) {
        for (int what = 0; what < due.length; what++) {
            Check.due("change " + index + " of edition " + edition + " tells " + what, due[what],
                    x.change(edition, index, what));
        }
    }

    private static void promise21OfSeveralTheFirst() {
        CommitteeBallots x = Check.inBallot();
        x.comment(0, 10, Check.EDITORIAL, 101);
        x.comment(0, 10, Check.TECHNICAL, 102);
        x.comment(0, 10, Check.TECHNICAL, 101);
        x.comment(0, 10, Check.TECHNICAL, 103);
        Check.carry(x);
        x.resolve(Check.MODIFY, 100);
        x.resolve(Check.ACCEPT, 0);
        x.resolve(Check.MODIFY, 101);
        x.resolve(Check.ACCEPT, 0);
        Check.due("resolved first with this value", 2, x.change(2, 0, 2));
        x.appeal(2, 0, 7);
        x.resolve(Check.REJECT, 0);
        Check.due("the next one that stands", 3, x.change(2, 0, 2));
        x.appeal(3, 0, 7);
        x.resolve(Check.REJECT, 0);
        Check.due("the last one that stands", 0, x.change(2, 0, 2));
    }

    private static void promise21LatestResolution() {
        CommitteeBallots x = Check.inBallot();
        x.comment(0, 10, Check.TECHNICAL, 101);
        x.comment(0, 10, Check.TECHNICAL, 101);
        Check.carry(x);
        x.resolve(Check.ACCEPT, 0);
        x.resolve(Check.ACCEPT, 0);
        Check.due("the first", 0, x.change(2, 0, 2));
        x.appeal(0, 0, 7);
        x.resolve(Check.ACCEPT, 0);
        Check.due("its latest resolution came later", 1, x.change(2, 0, 2));
        x.appeal(1, 0, 7);
        x.resolve(Check.ACCEPT, 0);
        Check.due("then that of the other", 0, x.change(2, 0, 2));
    }

    private static void promise22Undo() {
        CommitteeBallots x = new CommitteeBallots();
        Check.due("empty", Check.IMPOSSIBLE, x.undo());
        x.addMember(5);
        x.addMember(6);
        Check.due("one is left", 1, x.undo());
        Check.due("one member", 1, x.count(0));
        Check.due("none is left", 0, x.undo());
        Check.due("no member", 0, x.count(0));
        Check.due("empty again", Check.IMPOSSIBLE, x.undo());
        x.addMember(7);
        Check.due("the new one", 7, x.member(0, 0));
        Check.due("one state", 1, x.count(9));
    }

    private static void promise22FourStates() {
        CommitteeBallots x = new CommitteeBallots();
        for (int days = 1; days <= 7; days++) {
            x.pass(days);
            Check.due("states", Math.min(days, 4), x.count(9));
        }
        int[] today = {21, 15, 10, 6};
        for (int left = 3; left >= 0; left--) {
            Check.due("left", left, x.undo());
            Check.due("today", today[3 - left], x.count(3));
        }
        Check.due("the older ones are dropped", Check.IMPOSSIBLE, x.undo());
        Check.due("today stays", 6, x.count(3));
        for (int days = 1; days <= 5; days++) {
            x.pass(days);
        }
        Check.due("again four", 3, x.undo());
        x.pass(100);
        Check.due("a state in place of the undone one", 4, x.count(9));
        Check.due("undone", 3, x.undo());
        Check.due("today before it", 16, x.count(3));
    }

    private static void promise22ErrorsAndAnswersLeaveNoState() {
        CommitteeBallots x = Check.inBallot();
        x.undo();
        x.undo();
        int states = x.count(9);
        x.addMember(0);
        x.addClause(10, 1);
        x.set(0, 0);
        x.vote(0, 0);
        x.comment(0, 10, 1, 1);
        x.enter(0);
        x.pass(0);
        x.resolve(0, 0);
        x.appeal(0, 0, 1);
        Check.due("errors", states, x.count(9));
        for (int what = 0; what < 7; what++) {
            x.member(0, what);
            x.told(0, what);
            x.tally(what);
            x.count(what);
        }
        x.lacking();
        x.next();
        x.value(10);
        x.valueIn(10, 1);
        x.clause(0);
        x.changes(1);
        x.change(1, 0, 0);
        x.fault(0);
        x.type('1');
        x.clearText();
        Check.due("answers and texts", states, x.count(9));
        x.open();
        Check.due("opening", states + 1, x.count(9));
        x.vote(0, 0);
        Check.due("a vote", states + 2, x.count(9));
        x.undo();
        Check.write(x, "10t=1;");
        x.enter(0);
        Check.due("entering", states + 2, x.count(9));
        x.undo();
        Check.due("entering is undone as one", 0, x.count(6));
    }

    private static void promise22TextStays() {
        CommitteeBallots x = Check.ordinary();
        Check.write(x, "10t=5;");
        x.pass(1);
        x.type('2');
        Check.due("states", 3, x.undo());
        Check.due("the text is not undone", 7, x.count(10));
        x.clearText();
        x.undo();
        Check.due("nor restored", 0, x.count(10));
    }

    /** The beginning of a ballot, its days and its edition are not told, but come back, too. */
    private static void promise22OfAnOpening() {
        CommitteeBallots x = Check.inBallot();
        x.comment(0, 10, Check.TECHNICAL, 101);
        Check.carry(x);
        x.resolve(Check.ACCEPT, 0);
        x.open();
        x.undo();
        Check.due("an appeal is possible again", 1, x.appeal(0, 0, 7));
        Check.due("the value of the beginning of the first ballot", 100, x.value(10));
        Check.due("the edition goes back", 1, x.count(2));
        CommitteeBallots days = Check.inBallot();
        days.pass(30);
        days.open();
        days.undo();
        days.undo();
        Check.due("the first ballot is open again", 30, days.count(11));
        Check.due("a day less", 0, days.pass(29));
        Check.due("and ends", 1, days.pass(1));
    }

    /** Which of two resolutions came first comes back with them. */
    private static void promise22OfResolutions() {
        CommitteeBallots x = Check.inBallot();
        x.comment(0, 10, Check.TECHNICAL, 101);
        x.comment(0, 10, Check.TECHNICAL, 101);
        Check.carry(x);
        x.resolve(Check.ACCEPT, 0);
        x.resolve(Check.ACCEPT, 0);
        for (int turn = 0; turn < 2; turn++) {
            x.appeal(0, 0, 7);
            x.resolve(Check.ACCEPT, 0);
            Check.due("the other came first", 1, x.change(2, 0, 2));
        }
        for (int left = 3; left >= 0; left--) {
            Check.due("undone", left, x.undo());
        }
        Check.due("this one came first", 0, x.change(2, 0, 2));
        x.appeal(1, 0, 7);
        x.resolve(Check.ACCEPT, 0);
        Check.due("as its resolution is the old one", 0, x.change(2, 0, 2));
    }

    /** Takes back one to four steps of a run that has every kind of change, and makes them again. */
    private static void promise22RestoresAll() {
        String end = Facts.of(runTo(ANSWERS.length));
        for (int step = 0; step < ANSWERS.length; step++) {
            String before = Facts.of(runTo(step));
            for (int undone = 1; undone <= 4 && step + undone <= ANSWERS.length; undone++) {
                CommitteeBallots x = runTo(step + undone);
                for (int left = 3; left > 3 - undone; left--) {
                    Check.due("states left", left, x.undo());
                }
                Check.holds(undone + " undone to step " + step, before.equals(Facts.of(x)));
                for (int again = step; again < ANSWERS.length; again++) {
                    change(x, again);
                }
                Check.holds("the same end again", end.equals(Facts.of(x)));
            }
        }
    }

    private static CommitteeBallots runTo(int steps) {
        CommitteeBallots x = Check.committee(3, 2, 1);
        x.addClause(20, 200);
        x.addClause(10, 100);
        x.set(4, 1);
        for (int step = 0; step < steps; step++) {
            change(x, step);
        }
        return x;
    }

    private static void change(CommitteeBallots x, int step) {
        Check.due("answer of step " + step, ANSWERS[step], answer(x, step));
    }

    private static int answer(CommitteeBallots x, int step) {
        switch (step) {
            case 0: return x.addMember(4);
            case 1: return x.addClause(15, 150);
            case 2: return x.set(0, 40);
            case 3: return x.pass(7);
            case 4: return x.open();
            case 5: return x.vote(0, Check.APPROVE);
            case 6: return x.vote(0, Check.ABSTAIN);
            case 7: return x.vote(1, Check.APPROVE);
            case 8: return x.comment(0, 10, Check.TECHNICAL, 101);
            case 9: Check.write(x, "15t=151;20e=0201;"); return x.enter(1);
            case 10: return x.pass(29);
            case 11: return x.pass(3);
            case 12: return x.resolve(Check.ACCEPT, 0);
            case 13: return x.resolve(Check.MODIFY, 159);
            case 14: return x.pass(1);
            case 15: return x.appeal(0, 2, 7);
            case 16: return x.resolve(Check.MODIFY, 109);
            case 17: return x.resolve(Check.REJECT, 0);
            case 18: return x.appeal(2, 2, 4);
            case 19: return x.appeal(1, 0, 3);
            case 20: return x.resolve(Check.ACCEPT, 0);
            case 21: return x.open();
            case 22: return x.comment(1, 20, Check.EDITORIAL, 209);
            case 23: return x.vote(1, Check.APPROVE);
            case 24: return x.pass(31);
            case 25: return x.resolve(Check.ACCEPT, 0);
            case 26: return x.appeal(0, 1, 2);
            case 27: return x.resolve(Check.MODIFY, 208);
            default: return x.open();
        }
    }
}
