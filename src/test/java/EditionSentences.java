import java.util.function.Supplier;

/** The sentences of promises 20 to 22: changes of editions, and undo. */
final class EditionSentences {
    private EditionSentences() {
    }

    static void test() {
        changes();
        changesOfTwentyClauses();
        changesErrors();
        change();
        changeOfSeveral();
        changeErrors();
        undo();
        undoErrors();
    }

    private static void changes() {
        Sentence.of("Promise 20", "`int changes(int edition)`: Counts the changes of an edition.");
        Check.due("one", 1, Check.accepted(10).changes(2));
        Check.due("two", 2, Check.accepted(10, 30).changes(2));
        Check.due("three", 3, Check.accepted(10, 20, 30).changes(2));
        Sentence.of("Promise 20", "`edition`: 1 to the present edition");
        Check.takes(1, 1, CommitteeBallots::new, CommitteeBallots::changes);
        Check.takes(1, 2, () -> Check.accepted(10), CommitteeBallots::changes);
        Check.takes(1, 12, () -> Check.inEdition(12), CommitteeBallots::changes);
        Sentence.of("Promise 20", "Returns the number of clauses whose values differ from those in the edition "
                + "before,");
        CommitteeBallots x = Check.accepted(10, 20);
        x.open();
        x.comment(0, 10, Check.TECHNICAL, 100);
        Check.carry(x);
        x.resolve(Check.ACCEPT, 0);
        Check.due("two in edition 2", 2, x.changes(2));
        Check.due("one in edition 3, to the value of edition 1", 1, x.changes(3));
        Sentence.of("Promise 20", "0 for the edition 1;");
        Check.due("of an empty document", 0, new CommitteeBallots().changes(1));
        Check.due("of twenty clauses", 0, Check.twentyClauses().changes(1));
        Check.due("behind other editions", 0, x.changes(1));
    }

    /** Twenty clauses, of which all are changed but the last one. */
    private static CommitteeBallots nineteenChanges() {
        CommitteeBallots x = Check.twentyClauses();
        x.open();
        for (int clause = 20; clause >= 1; clause--) {
            x.comment(0, clause, Check.TECHNICAL, clause);
        }
        Check.carry(x);
        for (int clause = 1; clause <= 20; clause++) {
            x.resolve(clause == 20 ? Check.REJECT : Check.ACCEPT, 0);
        }
        return x;
    }

    private static void changesOfTwentyClauses() {
        Sentence.of("Promise 20", "Returns the number of clauses");
        CommitteeBallots x = nineteenChanges();
        Check.due("all but one", 19, x.changes(2));
        x.appeal(0, 0, 7);
        x.resolve(Check.ACCEPT, 0);
        Check.due("all", 20, x.changes(2));
    }

    private static void changesErrors() {
        Sentence.of("Promise 20", "INVALID_ARGUMENT.");
        Check.refused("edition 0", Check.INVALID, CommitteeBallots::new, x -> x.changes(0));
        Check.refused("edition 2 of 1", Check.INVALID, () -> Check.pending(10), x -> x.changes(2));
        Check.refused("edition 13", Check.INVALID, () -> Check.inEdition(12), x -> x.changes(13));
        Supplier<CommitteeBallots> back = () -> {
            CommitteeBallots x = Check.accepted(10);
            x.appeal(0, 0, 7);
            return x;
        };
        Check.refused("an edition that was taken back", Check.INVALID, back, x -> x.changes(2));
    }

    private static void change() {
        Sentence.of("Promise 21", "`int change(int edition, int index, int what)`: Returns the clause, or the "
                + "resolution, of a change of an edition.");
        CommitteeBallots x = Check.accepted(30, 10);
        int[][] due = {{10, 1, 1}, {30, 1, 0}};
        for (int index = 0; index < 2; index++) {
            for (int what = 0; what < 3; what++) {
                Check.due("change " + index + " tells " + what, due[index][what], x.change(2, index, what));
            }
        }
        Sentence.of("Promise 21", "`edition`: 1 to the present edition");
        Check.takes(1, 1, Check::ordinary, (one, edition) -> one.change(edition, 0, 0));
        Check.takes(1, 12, () -> Check.inEdition(12), (last, edition) -> last.change(edition, 0, 0));
        Sentence.of("Promise 21", "`index`: 0 for the one with the lowest clause, and so on");
        CommitteeBallots nineteen = nineteenChanges();
        for (int index = 0; index < 19; index++) {
            Check.due("the clause", index + 1, nineteen.change(2, index, 0));
            Check.due("its comment", 19 - index, nineteen.change(2, index, 2));
        }
        Sentence.of("Promise 21", "`what`: 0: the clause;");
        Check.due("the only clause", 50, Check.inEdition(2).change(2, 0, 0));
        Sentence.of("Promise 21", "1: the ballot that carried it, from 1;");
        CommitteeBallots twelve = Check.inEdition(12);
        for (int edition = 2; edition <= 12; edition++) {
            Check.due("ballot of edition " + edition, edition - 1, twelve.change(edition, 0, 1));
        }
        CommitteeBallots late = Check.inBallot();
        Check.finish(late);
        late.open();
        Check.carry(late);
        late.open();
        late.comment(0, 10, Check.TECHNICAL, 101);
        Check.carry(late);
        late.resolve(Check.ACCEPT, 0);
        Check.due("ballots that changed nothing count, too", 3, late.change(2, 0, 1));
    }

    private static void changeOfSeveral() {
        Sentence.of("Promise 21", "2: the number of the comment in this ballot that gave it this value (of several "
                + "that stand the one whose latest resolution came first)");
        CommitteeBallots x = Check.inBallot();
        x.comment(0, 10, Check.EDITORIAL, 101);
        x.comment(0, 10, Check.TECHNICAL, 105);
        x.comment(1, 10, Check.TECHNICAL, 101);
        x.comment(2, 10, Check.TECHNICAL, 101);
        x.comment(0, 20, Check.TECHNICAL, 101);
        Check.carry(x);
        x.resolve(Check.MODIFY, 100);
        x.resolve(Check.ACCEPT, 0);
        x.resolve(Check.ACCEPT, 0);
        x.resolve(Check.ACCEPT, 0);
        x.resolve(Check.ACCEPT, 0);
        Check.due("the first with this value", 2, x.change(2, 0, 2));
        Check.due("of the other clause", 4, x.change(2, 1, 2));
        x.appeal(2, 0, 7);
        x.resolve(Check.ACCEPT, 0);
        Check.due("its latest resolution came last", 3, x.change(2, 0, 2));
        x.appeal(3, 0, 7);
        x.resolve(Check.REJECT, 0);
        Check.due("one that does not stand", 0, x.change(2, 0, 2));
        x.appeal(0, 0, 7);
        x.resolve(Check.REJECT, 0);
        Check.due("the last that stands", 2, x.change(2, 0, 2));
    }

    private static void changeErrors() {
        Sentence.of("Promise 21", "Returns the number; INVALID_ARGUMENT if an argument is out of range (index "
                + "negative);");
        Supplier<CommitteeBallots> changed = () -> Check.accepted(10);
        Check.takes(0, 2, changed, (x, what) -> x.change(2, 0, what));
        Check.refused("index -1", Check.INVALID, changed, x -> x.change(2, -1, 0));
        Check.refused("the least index", Check.INVALID, changed, x -> x.change(2, Integer.MIN_VALUE, 0));
        Check.refused("index -1 of no change", Check.INVALID, changed, x -> x.change(1, -1, 0));
        Check.refused("what, where there are not so many", Check.INVALID, changed, x -> x.change(1, 0, 3));
        Check.refused("all", Check.INVALID, changed, x -> x.change(0, -1, -1));
        Check.refused("edition 13", Check.INVALID, () -> Check.inEdition(12), x -> x.change(13, 0, 0));
        Sentence.of("Promise 21", "NOT_FOUND if there are not so many.");
        for (int what = 0; what <= 2; what++) {
            int property = what;
            Check.refused("edition 1", Check.NOT_FOUND, changed, x -> x.change(1, 0, property));
            Check.refused("one of one", Check.NOT_FOUND, changed, x -> x.change(2, 1, property));
            Check.refused("many", Check.NOT_FOUND, changed, x -> x.change(2, Integer.MAX_VALUE, property));
            Check.refused("an empty document", Check.NOT_FOUND, CommitteeBallots::new, x -> x.change(1, 0, property));
        }
        Check.due("nineteen", Check.NOT_FOUND, nineteenChanges().change(2, 19, 0));
        Check.due("twenty", Check.NOT_FOUND, nineteenChanges().change(2, 20, 0));
    }

    private static void undo() {
        Sentence.of("Promise 22", "`int undo()`: Restores the latest state of the history, which is removed from it.");
        CommitteeBallots x = Check.pending(10, 20);
        String pending = Facts.of(x);
        x.resolve(Check.ACCEPT, 0);
        String one = Facts.of(x);
        x.resolve(Check.ACCEPT, 0);
        x.undo();
        Check.holds("the state before the second resolution", one.equals(Facts.of(x)));
        x.undo();
        Check.holds("the state before the first, which is another", pending.equals(Facts.of(x)));
        Sentence.of("Promise 22", "Returns the number of states that are left in the history;");
        for (int changes = 1; changes <= 7; changes++) {
            CommitteeBallots days = new CommitteeBallots();
            for (int day = 1; day <= changes; day++) {
                days.pass(1);
            }
            int states = Math.min(changes, 4);
            for (int undone = 1; undone <= states; undone++) {
                Check.due("left", states - undone, days.undo());
                Check.due("today", changes - undone, days.count(3));
            }
        }
    }

    private static void undoErrors() {
        Sentence.of("Promise 22", "NOT_POSSIBLE if it is empty.");
        Check.refused("a new object", Check.IMPOSSIBLE, CommitteeBallots::new, CommitteeBallots::undo);
        Check.refused("typing leaves none", Check.IMPOSSIBLE, () -> {
            CommitteeBallots x = new CommitteeBallots();
            x.type('1');
            return x;
        }, CommitteeBallots::undo);
        Check.refused("an error leaves none", Check.IMPOSSIBLE, () -> {
            CommitteeBallots x = new CommitteeBallots();
            x.open();
            return x;
        }, CommitteeBallots::undo);
        Check.refused("all four were undone", Check.IMPOSSIBLE, () -> {
            CommitteeBallots x = Check.ordinary();
            for (int undone = 0; undone < 4; undone++) {
                x.undo();
            }
            return x;
        }, CommitteeBallots::undo);
    }
}
