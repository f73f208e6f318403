import java.util.function.Supplier;

/** The sentences of promises 1 to 9: a new object, members, clauses, settings and counts. */
final class DocumentSentences {
    private DocumentSentences() {
    }

    static void test() {
        newObject();
        addMember();
        addClause();
        addClauseIsNotPossible();
        set();
        member();
        memberInABallot();
        memberErrors();
        value();
        valueIn();
        clause();
        countOfTheCommittee();
        countOfTheBallot();
        countOfComments();
        countOfHistoryAndText();
        countOfDaysAndSettings();
        countErrors();
    }

    private static void newObject() {
        Sentence.of("Promise 1", "`CommitteeBallots()`: Creates a committee without members, with an empty document.");
        CommitteeBallots x = new CommitteeBallots();
        Check.due("members", 0, x.count(0));
        Check.due("clauses", 0, x.count(1));
        Check.due("no member", Check.INVALID, x.member(0, 0));
        Check.due("no clause", Check.NOT_FOUND, x.clause(0));
        Check.due("no active weight", 0, x.count(8));
        for (int clause = 1; clause <= 99; clause++) {
            Check.due("no clause " + clause, Check.INVALID, x.value(clause));
        }
        CommitteeBallots other = Check.pending(10);
        Check.due("one object", 1, other.count(7));
        Check.due("another object has nothing of it", 0, x.count(7) + x.count(0) + x.count(1) + x.count(3));
    }

    private static void addMember() {
        Sentence.of("Promise 2", "`int addMember(int weight)`: Adds a member.");
        CommitteeBallots x = new CommitteeBallots();
        x.addMember(4);
        Check.due("members", 1, x.count(0));
        Check.due("weight", 4, x.member(0, 0));
        Check.due("in an open ballot, too", 3, Check.inBallot().addMember(1));
        Sentence.of("Promise 2", "`weight`: 1 to 9");
        Check.takes(1, 9, Check::ordinary, CommitteeBallots::addMember);
        Sentence.of("Promise 2", "Returns the number of the member;");
        for (int member = 1; member < 10; member++) {
            Check.due("number", member, x.addMember(10 - member));
            Check.due("its weight", 10 - member, x.member(member, 0));
        }
        Sentence.of("Promise 2", "INVALID_ARGUMENT if weight is out of range;");
        for (int weight : new int[] {0, 10, -9, 256 + 5}) {
            Check.refused("weight " + weight, Check.INVALID, Check::ordinary, one -> one.addMember(weight));
            Check.refused("weight " + weight, Check.INVALID, Check::tenMembers, full -> full.addMember(weight));
        }
        Sentence.of("Promise 2", "LIMIT_REACHED if there are 10.");
        for (int weight = 1; weight <= 9; weight++) {
            int eleventh = weight;
            Check.refused("weight " + weight, Check.LIMIT, Check::tenMembers, full -> full.addMember(eleventh));
        }
        CommitteeBallots nine = Check.tenMembers();
        nine.undo();
        Check.due("if there are 9", 9, nine.addMember(1));
    }

    private static void addClause() {
        Sentence.of("Promise 3", "`int addClause(int clause, int value)`: Adds a clause.");
        CommitteeBallots x = new CommitteeBallots();
        x.addClause(42, 4711);
        Check.due("clauses", 1, x.count(1));
        Check.due("the clause", 42, x.clause(0));
        Check.due("its value", 4711, x.value(42));
        Check.due("its value in the edition", 4711, x.valueIn(42, 1));
        Sentence.of("Promise 3", "`clause`: 1 to 99");
        Check.takes(1, 99, Check::ordinary, (some, clause) -> some.addClause(clause, 0));
        Sentence.of("Promise 3", "`value`: 0 to 9999");
        Check.takes(0, 9999, Check::ordinary, (some, value) -> some.addClause(1, value));
        Sentence.of("Promise 3", "Returns the number of clauses;");
        CommitteeBallots falling = new CommitteeBallots();
        for (int clauses = 1; clauses <= 20; clauses++) {
            Check.due("clauses", clauses, falling.addClause(100 - clauses, clauses));
        }
        for (int index = 0; index < 20; index++) {
            Check.due("in ascending order", 80 + index, falling.clause(index));
            Check.due("with its value", 20 - index, falling.value(80 + index));
            Check.due("and that of edition 1", 20 - index, falling.valueIn(80 + index, 1));
        }
        Sentence.of("Promise 3", "INVALID_ARGUMENT if an argument is out of range;");
        Check.refused("both", Check.INVALID, Check::ordinary, some -> some.addClause(0, 10000));
        Check.refused("in a ballot", Check.INVALID, Check::inBallot, open -> open.addClause(100, 0));
        Check.refused("of a clause that is there", Check.INVALID, Check::ordinary, some -> some.addClause(10, -1));
        Check.refused("with 20 clauses", Check.INVALID, Check::twentyClauses, full -> full.addClause(0, 0));
        Sentence.of("Promise 3", "LIMIT_REACHED if there are 20.");
        for (int clause : new int[] {21, 50, 99}) {
            Check.refused("clause " + clause, Check.LIMIT, Check::twentyClauses, full -> full.addClause(clause, 0));
        }
        CommitteeBallots nineteen = Check.twentyClauses();
        nineteen.undo();
        Check.due("if there are 19", 20, nineteen.addClause(99, 0));
    }

    private static void addClauseIsNotPossible() {
        Sentence.of("Promise 3", "NOT_POSSIBLE if a ballot was opened, or there is such a clause;");
        Check.refused("a ballot is open", Check.IMPOSSIBLE, Check::inBallot, open -> open.addClause(1, 0));
        Check.refused("a ballot was carried", Check.IMPOSSIBLE, () -> Check.accepted(10), x -> x.addClause(1, 0));
        for (int clause : new int[] {10, 20, 30}) {
            Check.refused("such a clause", Check.IMPOSSIBLE, Check::ordinary, x -> x.addClause(clause, 0));
            Check.refused("of this value", Check.IMPOSSIBLE, Check::ordinary, x -> x.addClause(clause, 10 * clause));
        }
        Check.refused("one of twenty", Check.IMPOSSIBLE, Check::twentyClauses, x -> x.addClause(20, 1));
        Supplier<CommitteeBallots> full = () -> {
            CommitteeBallots x = Check.twentyClauses();
            x.open();
            return x;
        };
        Check.refused("in a ballot, with twenty", Check.IMPOSSIBLE, full, x -> x.addClause(21, 1));
    }

    private static void set() {
        Sentence.of("Promise 4", "`int set(int what, int value)`: Sets a setting.");
        CommitteeBallots x = new CommitteeBallots();
        int[] least = {1, 1, 1, 0, 1};
        int[] greatest = {100, 100, 60, 60, 5};
        for (int what = 0; what < 5; what++) {
            x.set(what, greatest[what]);
        }
        for (int what = 0; what < 5; what++) {
            Check.due("setting " + what, greatest[what], x.count(20 + what));
        }
        Check.due("in an open ballot, too", 50, Check.inBallot().set(0, 1));
        Sentence.of("Promise 4", "`what`: 0 to 4");
        Check.takes(0, 4, Check::ordinary, (some, what) -> some.set(what, 5));
        Sentence.of("Promise 4", "`value`: a value in its range");
        for (int what = 0; what < 5; what++) {
            int setting = what;
            Check.takes(least[what], greatest[what], Check::inBallot, (some, value) -> some.set(setting, value));
        }
        Sentence.of("Promise 4", "Returns the previous value;");
        for (int what = 0; what < 5; what++) {
            Check.due("the greatest", greatest[what], x.set(what, least[what]));
            Check.due("the least", least[what], x.set(what, least[what] + 1));
            Check.due("the next", least[what] + 1, x.set(what, least[what] + 1));
            Check.due("the same again", least[what] + 1, x.set(what, greatest[what]));
        }
        Sentence.of("Promise 4", "INVALID_ARGUMENT if an argument is out of range.");
        Check.refused("both", Check.INVALID, Check::ordinary, some -> some.set(5, -1));
        Check.refused("the greatest quorum for the days", Check.INVALID, Check::ordinary, some -> some.set(2, 100));
        Check.refused("the greatest days for the lapse", Check.INVALID, Check::ordinary, some -> some.set(4, 60));
        Check.refused("the least days for appeals", Check.INVALID, Check::ordinary, some -> some.set(2, 0));
    }

    private static void member() {
        Sentence.of("Promise 5", "`int member(int member, int what)`: Returns a property of a member.");
        CommitteeBallots x = Check.committee(9, 1);
        x.addClause(10, 100);
        int[] first = {9, 0, 0, Check.NOT_FOUND, 0, 0};
        for (int what = 0; what < 6; what++) {
            Check.due("property " + what, first[what], x.member(0, what));
        }
        Sentence.of("Promise 5", "`member`: number of the member");
        Check.takes(0, 9, Check::tenMembers, (ten, member) -> ten.member(member, 0));
        Check.takes(0, 2, Check::ordinary, (three, member) -> three.member(member, 5));
        Sentence.of("Promise 5", "`what`: 0: the weight;");
        Check.due("the first", 9, x.member(0, 0));
        Check.due("the second", 1, x.member(1, 0));
        Sentence.of("Promise 5", "1: the misses;");
        for (int ballot = 1; ballot <= 3; ballot++) {
            x.open();
            Check.due("while it is open", ballot - 1, x.member(0, 1));
            x.vote(1, Check.ABSTAIN);
            Check.finish(x);
            Check.due("after it", ballot, x.member(0, 1));
            Check.due("of the voter", 0, x.member(1, 1));
        }
        Sentence.of("Promise 5", "2: 1 if lapsed, otherwise 0;");
        Check.due("three misses of two", 1, x.member(0, 2));
        Check.due("no miss", 0, x.member(1, 2));
        x.set(4, 3);
        Check.due("three of three", 1, x.member(0, 2));
        x.set(4, 4);
        Check.due("three of four", 0, x.member(0, 2));
    }

    private static void memberInABallot() {
        Sentence.of("Promise 5", "3: the vote in the latest ballot, as it was given;");
        for (int vote = 0; vote <= 2; vote++) {
            CommitteeBallots x = Check.inBallot();
            x.vote(0, vote);
            Check.due("while it is open", vote, x.member(0, 3));
            Check.finish(x);
            Check.due("after its end, also a disapproval that was an abstention", vote, x.member(0, 3));
            x.open();
            Check.due("not in the next one", Check.NOT_FOUND, x.member(0, 3));
        }
        Sentence.of("Promise 5", "4: comments in the latest ballot (0 if it ended and was not carried);");
        CommitteeBallots carried = Check.withComments(30);
        Check.due("while it is open", 30, carried.member(0, 4));
        Check.due("of another member", 0, carried.member(1, 4));
        Check.carry(carried);
        Check.due("carried", 30, carried.member(0, 4));
        carried.resolve(Check.REJECT, 0);
        Check.due("resolved", 30, carried.member(0, 4));
        CommitteeBallots dropped = Check.withComments(30);
        Check.finish(dropped);
        Check.due("not carried", 0, dropped.member(0, 4));
        Sentence.of("Promise 5", "5: how many ballots that have ended the member voted in");
        CommitteeBallots x = Check.ordinary();
        for (int ballot = 1; ballot <= 5; ballot++) {
            x.open();
            x.vote(0, ballot % 3);
            x.vote(0, Check.ABSTAIN);
            if (ballot == 4) {
                x.vote(1, Check.APPROVE);
            }
            Check.due("while it is open", ballot - 1, x.member(0, 5));
            Check.finish(x);
            Check.due("when it has ended", ballot, x.member(0, 5));
            Check.due("of one who was lapsed by then", ballot / 4, x.member(1, 5));
            Check.due("of one who never voted", 0, x.member(2, 5));
        }
    }

    private static void memberErrors() {
        Sentence.of("Promise 5", "Returns the property; INVALID_ARGUMENT if an argument is out of range;");
        Check.takes(0, 5, Check::inBallot, (x, what) -> x.member(1, what));
        Check.refused("no member", Check.INVALID, CommitteeBallots::new, x -> x.member(0, 0));
        Check.refused("both", Check.INVALID, Check::ordinary, x -> x.member(3, 6));
        Check.refused("of no member the vote", Check.INVALID, Check::ordinary, x -> x.member(3, 3));
        Sentence.of("Promise 5", "NOT_FOUND for 3 if there is none.");
        Check.refused("no ballot", Check.NOT_FOUND, Check::ordinary, x -> x.member(0, 3));
        Check.refused("no vote", Check.NOT_FOUND, Check::inBallot, x -> x.member(0, 3));
        CommitteeBallots ended = Check.inBallot();
        ended.vote(1, Check.APPROVE);
        Check.finish(ended);
        Check.due("no vote in a ballot that has ended", Check.NOT_FOUND, ended.member(0, 3));
        Check.due("a vote of another member", Check.APPROVE, ended.member(1, 3));
        ended.addMember(1);
        Check.due("of a member who came later", Check.NOT_FOUND, ended.member(3, 3));
    }

    private static void value() {
        Sentence.of("Promise 6", "`int value(int clause)`: Returns the value of a clause now.");
        CommitteeBallots x = Check.pending(20, 30);
        Check.due("before its resolution", 200, x.value(20));
        x.resolve(Check.ACCEPT, 0);
        Check.due("after it", 201, x.value(20));
        x.appeal(0, 0, 7);
        Check.due("after an appeal", 200, x.value(20));
        Sentence.of("Promise 6", "`clause`: the clause");
        for (int clause : new int[] {10, 20, 30}) {
            Check.due("clause " + clause, 10 * clause, Check.ordinary().value(clause));
        }
        Sentence.of("Promise 6", "Returns the value;");
        CommitteeBallots edges = new CommitteeBallots();
        edges.addClause(99, 0);
        edges.addClause(1, 9999);
        Check.due("the least", 0, edges.value(99));
        Check.due("the greatest", 9999, edges.value(1));
        Sentence.of("Promise 6", "INVALID_ARGUMENT.");
        for (int clause : new int[] {-1, 0, 2, 98, 100, 256 + 1}) {
            Check.due("clause " + clause, Check.INVALID, edges.value(clause));
        }
        for (int clause : Check.far()) {
            Check.due("clause " + clause, Check.INVALID, edges.value(clause));
        }
        Check.due("an empty document", Check.INVALID, new CommitteeBallots().value(0));
    }

    private static void valueIn() {
        Sentence.of("Promise 7", "`int valueIn(int clause, int edition)`: Returns the value that a clause had in an "
                + "edition.");
        CommitteeBallots twelve = Check.inEdition(12);
        for (int edition = 1; edition <= 12; edition++) {
            Check.due("edition " + edition, edition == 1 ? 0 : edition, twelve.valueIn(50, edition));
        }
        Sentence.of("Promise 7", "`clause`: the clause");
        CommitteeBallots x = Check.accepted(20);
        Check.due("a clause that has not changed", 100, x.valueIn(10, 2));
        Check.due("one that has, before", 200, x.valueIn(20, 1));
        Check.due("and after", 201, x.valueIn(20, 2));
        Check.due("the last clause", 300, x.valueIn(30, 1));
        Sentence.of("Promise 7", "`edition`: 1 to the present edition");
        Check.takes(1, 1, Check::ordinary, (one, edition) -> one.valueIn(10, edition));
        Check.takes(1, 2, () -> Check.accepted(10), (two, edition) -> two.valueIn(10, edition));
        Check.takes(1, 12, () -> Check.inEdition(12), (last, edition) -> last.valueIn(50, edition));
        Sentence.of("Promise 7", "Returns the value;");
        CommitteeBallots pending = Check.pending(10, 20);
        pending.resolve(Check.ACCEPT, 0);
        Check.due("of the edition, while the next one has not come", 100, pending.valueIn(10, 1));
        Check.due("and not the one now", 101, pending.value(10));
        Sentence.of("Promise 7", "INVALID_ARGUMENT if there is no such clause or edition.");
        Check.refused("no such clause", Check.INVALID, Check::ordinary, one -> one.valueIn(11, 1));
        Check.refused("clause 0", Check.INVALID, Check::ordinary, one -> one.valueIn(0, 1));
        Check.refused("no clause", Check.INVALID, CommitteeBallots::new, one -> one.valueIn(1, 1));
        Check.refused("neither", Check.INVALID, Check::ordinary, one -> one.valueIn(11, 2));
        Check.refused("edition 13", Check.INVALID, () -> Check.inEdition(12), last -> last.valueIn(50, 13));
        Supplier<CommitteeBallots> back = () -> {
            CommitteeBallots two = Check.accepted(10);
            two.appeal(0, 0, 7);
            return two;
        };
        Check.refused("an edition that was taken back", Check.INVALID, back, one -> one.valueIn(10, 2));
    }

    private static void clause() {
        Sentence.of("Promise 8", "`int clause(int index)`: Returns a clause.");
        CommitteeBallots x = new CommitteeBallots();
        x.addClause(50, 1);
        Check.due("the only one", 50, x.clause(0));
        Sentence.of("Promise 8", "`index`: 0 for the one with the lowest number, and so on");
        x.addClause(99, 1);
        x.addClause(1, 1);
        x.addClause(49, 1);
        int[] ascending = {1, 49, 50, 99};
        for (int index = 0; index < 4; index++) {
            Check.due("index " + index, ascending[index], x.clause(index));
        }
        Sentence.of("Promise 8", "Returns the clause;");
        for (int index = 0; index < 20; index++) {
            Check.due("index " + index, index + 1, Check.twentyClauses().clause(index));
        }
        Sentence.of("Promise 8", "INVALID_ARGUMENT if index is negative;");
        Check.refused("-1", Check.INVALID, Check::ordinary, some -> some.clause(-1));
        Check.refused("the least", Check.INVALID, Check::ordinary, some -> some.clause(Integer.MIN_VALUE));
        Check.refused("without clauses", Check.INVALID, CommitteeBallots::new, none -> none.clause(-1));
        Sentence.of("Promise 8", "NOT_FOUND if there are not so many.");
        Check.refused("none", Check.NOT_FOUND, CommitteeBallots::new, none -> none.clause(0));
        Check.refused("three", Check.NOT_FOUND, Check::ordinary, three -> three.clause(3));
        Check.refused("twenty", Check.NOT_FOUND, Check::twentyClauses, full -> full.clause(20));
        Check.refused("the greatest", Check.NOT_FOUND, Check::ordinary, some -> some.clause(Integer.MAX_VALUE));
    }

    private static void countOfTheCommittee() {
        Sentence.of("Promise 9", "`int count(int what)`: Returns a number.");
        Check.due("of a new object", 0, new CommitteeBallots().count(0));
        Sentence.of("Promise 9", "`what`: 0: members;");
        counts(0, 0, CommitteeBallots::new);
        counts(0, 3, Check::ordinary);
        counts(0, 10, Check::tenMembers);
        Sentence.of("Promise 9", "1: clauses;");
        counts(1, 0, CommitteeBallots::new);
        counts(1, 20, Check::twentyClauses);
        Sentence.of("Promise 9", "2: the edition;");
        counts(2, 1, CommitteeBallots::new);
        counts(2, 1, () -> Check.pending(10));
        counts(2, 2, () -> Check.accepted(10));
        counts(2, 12, () -> Check.inEdition(12));
        Sentence.of("Promise 9", "3: today;");
        counts(3, 0, CommitteeBallots::new);
        counts(3, 1, () -> Check.onDay(1));
        counts(3, 10000, () -> Check.onDay(10000));
    }

    private static void counts(int what, int due, Supplier<CommitteeBallots> setUp) {
        Check.due("number " + what, due, setUp.get().count(what));
    }

    private static void countOfTheBallot() {
        Sentence.of("Promise 9", "4: 1 if a ballot is open, otherwise 0;");
        counts(4, 0, Check::ordinary);
        counts(4, 1, Check::inBallot);
        counts(4, 0, () -> Check.pending(10));
        Sentence.of("Promise 9", "5: ballots that were opened;");
        counts(5, 0, Check::ordinary);
        counts(5, 1, Check::inBallot);
        counts(5, 1, () -> Check.accepted(10));
        counts(5, 11, () -> Check.inEdition(12));
        CommitteeBallots undone = Check.inBallot();
        undone.undo();
        Check.due("an opening that was undone", 0, undone.count(5));
        Sentence.of("Promise 9", "8: the active weight now;");
        counts(8, 0, CommitteeBallots::new);
        counts(8, 10, Check::tenMembers);
        counts(8, 90, () -> Check.committee(9, 9, 9, 9, 9, 9, 9, 9, 9, 9));
        CommitteeBallots x = Check.committee(4, 2);
        x.addClause(10, 100);
        x.set(4, 1);
        x.open();
        x.vote(0, Check.APPROVE);
        Check.due("while the ballot is open", 6, x.count(8));
        Check.finish(x);
        Check.due("behind it", 4, x.count(8));
        x.set(4, 2);
        Check.due("by the lapse now", 6, x.count(8));
    }

    private static void countOfComments() {
        Sentence.of("Promise 9", "6: comments of the latest ballot (0 if it ended and was not carried);");
        counts(6, 0, Check::ordinary);
        counts(6, 0, Check::inBallot);
        counts(6, 30, () -> Check.withComments(30));
        counts(6, 3, () -> Check.pending(10, 20, 30));
        counts(6, 3, () -> Check.accepted(10, 20, 30));
        CommitteeBallots x = Check.accepted(10, 20, 30);
        x.open();
        Check.due("of the next ballot", 0, x.count(6));
        CommitteeBallots dropped = Check.withComments(30);
        Check.finish(dropped);
        Check.due("not carried", 0, dropped.count(6));
        dropped.undo();
        Check.due("its end undone", 30, dropped.count(6));
        Sentence.of("Promise 9", "7: pending comments;");
        counts(7, 0, () -> Check.withComments(30));
        counts(7, 3, () -> Check.pending(10, 20, 30));
        counts(7, 0, () -> Check.accepted(10, 20, 30));
        CommitteeBallots carried = Check.withComments(30);
        Check.carry(carried);
        Check.due("the most", 30, carried.count(7));
        carried.resolve(Check.REJECT, 0);
        Check.due("one less", 29, carried.count(7));
        carried.appeal(0, 0, 7);
        Check.due("one more", 30, carried.count(7));
    }

    private static void countOfHistoryAndText() {
        Sentence.of("Promise 9", "9: states in the history;");
        CommitteeBallots x = new CommitteeBallots();
        for (int changes = 0; changes <= 6; changes++) {
            Check.due("after " + changes + " changes", Math.min(changes, 4), x.count(9));
            x.pass(1);
        }
        x.undo();
        Check.due("one undone", 3, x.count(9));
        Sentence.of("Promise 9", "10: the length of the text;");
        counts(10, 0, CommitteeBallots::new);
        counts(10, 1, () -> Check.withText(" "));
        counts(10, 80, () -> Check.withText("x".repeat(80)));
        counts(10, 80, () -> Check.withText("x".repeat(81)));
        CommitteeBallots cleared = Check.withText("x".repeat(80));
        cleared.clearText();
        Check.due("cleared", 0, cleared.count(10));
    }

    private static void countOfDaysAndSettings() {
        Sentence.of("Promise 9", "11: days that the open ballot still has, 0 if none is open;");
        counts(11, 0, Check::ordinary);
        CommitteeBallots x = Check.inBallot();
        for (int left = 30; left >= 1; left--) {
            Check.due("left", left, x.count(11));
            x.pass(1);
        }
        Check.due("none is open", 0, x.count(11));
        CommitteeBallots late = Check.onDay(9990);
        late.open();
        Check.due("also beyond the last day", 30, late.count(11));
        Sentence.of("Promise 9", "20 to 24: the settings 0 to 4");
        int[] settings = {100, 1, 60, 0, 5};
        CommitteeBallots set = new CommitteeBallots();
        for (int what = 0; what < 5; what++) {
            set.set(what, settings[what]);
        }
        for (int what = 0; what < 5; what++) {
            Check.due("setting " + what, settings[what], set.count(20 + what));
        }
    }

    private static void countErrors() {
        Sentence.of("Promise 9", "Returns the number; INVALID_ARGUMENT if what is out of range.");
        Check.takes(0, 11, Check::ordinary, CommitteeBallots::count);
        Check.takes(20, 24, Check::ordinary, CommitteeBallots::count);
        for (int what = 12; what <= 19; what++) {
            Check.due("between the ranges", Check.INVALID, Check.ordinary().count(what));
        }
    }
}
