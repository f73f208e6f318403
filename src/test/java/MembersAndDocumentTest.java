/** Promises 1 to 9: a new object, members, clauses, settings and counts. */
public final class MembersAndDocumentTest {
    public static void main(String[] args) {
        promise1NewObject();
        promise2AddMember();
        promise2MembersOfAnOpenBallot();
        promise3AddClause();
        promise3AfterABallotWasOpened();
        promise4Set();
        promise4WhatSettingsChange();
        promise5Member();
        promise5Lapse();
        promise5CommentsOfMembers();
        promise6Value();
        promise7ValueIn();
        promise8Clause();
        promise9Count();
        Check.end("MembersAndDocumentTest");
    }

    private static void promise1NewObject() {
        CommitteeBallots x = new CommitteeBallots();
        int[] first = {0, 0, 1, 0, 0, 0, 0, 0, 0, 0, 0, 0};
        for (int what = 0; what < first.length; what++) {
            Check.due("new: count " + what, first[what], x.count(what));
        }
        int[] settings = {50, 67, 30, 14, 2};
        for (int what = 0; what < settings.length; what++) {
            Check.due("new: setting " + what, settings[what], x.count(20 + what));
        }
        Check.due("new: no member", Check.INVALID, x.member(0, 0));
        Check.due("new: no clause", Check.NOT_FOUND, x.clause(0));
        Check.due("new: no value", Check.INVALID, x.value(1));
        Check.due("new: no clause in edition 1", Check.INVALID, x.valueIn(1, 1));
        Check.due("new: no tally", Check.NOT_FOUND, x.tally(5));
        Check.due("new: nothing to undo", Check.IMPOSSIBLE, x.undo());
        Check.due("new: no fault", Check.NOT_FOUND, x.fault(0));
        Check.due("new: nothing pending", Check.NOT_FOUND, x.next());
        Check.due("new: no comment", Check.INVALID, x.told(0, 0));
        Check.due("new: no changes", 0, x.changes(1));
    }

    private static void promise2AddMember() {
        CommitteeBallots x = new CommitteeBallots();
        Check.due("weight 0", Check.INVALID, x.addMember(0));
        Check.due("weight 10", Check.INVALID, x.addMember(10));
        for (int far : Check.far()) {
            Check.due("weight far out of range", Check.INVALID, x.addMember(far));
        }
        Check.due("refused members leave no state", 0, x.count(9));
        for (int member = 0; member < 10; member++) {
            Check.due("member " + member, member, x.addMember(member % 9 + 1));
        }
        Check.due("an eleventh member", Check.LIMIT, x.addMember(1));
        Check.due("weight before limit", Check.INVALID, x.addMember(0));
        for (int member = 0; member < 10; member++) {
            Check.due("weight of " + member, member % 9 + 1, x.member(member, 0));
            Check.due("misses of " + member, 0, x.member(member, 1));
            Check.due("vote of " + member, Check.NOT_FOUND, x.member(member, 3));
        }
        Check.due("ten members", 10, x.count(0));
        Check.due("active weight", 46, x.count(8));
        x.undo();
        Check.due("room again after undo", 9, x.addMember(9));
        Check.due("weight of the new one", 9, x.member(9, 0));
    }

    private static void promise2MembersOfAnOpenBallot() {
        CommitteeBallots x = Check.inBallot();
        x.vote(0, Check.APPROVE);
        Check.due("a member joins an open ballot", 3, x.addMember(9));
        Check.due("without a vote", Check.NOT_FOUND, x.member(3, 3));
        Check.due("it counts to the active weight", 12, x.tally(0));
        Check.due("it can vote", 2, x.vote(3, Check.APPROVE));
        Check.due("its vote counts", 10, x.tally(2));
        Check.due("carried by it", 2, Check.finish(x));
        Check.due("a member joins behind a ballot", 4, x.addMember(8));
        Check.due("the tally stays as it counted", 12, x.tally(0));
        Check.due("it did not miss it", 0, x.member(4, 1));
        Check.due("nor vote in it", Check.NOT_FOUND, x.member(4, 3));
    }

    private static void promise3AddClause() {
        CommitteeBallots x = new CommitteeBallots();
        Check.due("clause 0", Check.INVALID, x.addClause(0, 5));
        Check.due("clause 100", Check.INVALID, x.addClause(100, 5));
        Check.due("value -1", Check.INVALID, x.addClause(5, -1));
        Check.due("value 10000", Check.INVALID, x.addClause(5, 10000));
        for (int far : Check.far()) {
            Check.due("clause far out of range", Check.INVALID, x.addClause(far, 5));
            Check.due("value far out of range", Check.INVALID, x.addClause(5, far));
        }
        Check.due("clause 99", 1, x.addClause(99, 9999));
        Check.due("clause 1", 2, x.addClause(1, 0));
        Check.due("clause 1 again", Check.IMPOSSIBLE, x.addClause(1, 5));
        Check.due("range before possibility", Check.INVALID, x.addClause(1, 10000));
        Check.due("clause 50", 3, x.addClause(50, 5));
        int[] sorted = {1, 50, 99};
        int[] values = {0, 5, 9999};
        for (int index = 0; index < 3; index++) {
            Check.due("in ascending order", sorted[index], x.clause(index));
            Check.due("its value", values[index], x.value(sorted[index]));
            Check.due("its value in edition 1", values[index], x.valueIn(sorted[index], 1));
        }
        for (int clause = 2; clause < 19; clause++) {
            Check.due("clause " + clause, clause + 2, x.addClause(clause, clause));
        }
        Check.due("a clause beyond 20", Check.LIMIT, x.addClause(80, 5));
        Check.due("possibility before limit", Check.IMPOSSIBLE, x.addClause(50, 5));
        Check.due("range before limit", Check.INVALID, x.addClause(0, 5));
        Check.due("four states of all", 4, x.count(9));
    }

    private static void promise3AfterABallotWasOpened() {
        CommitteeBallots x = Check.inBallot();
        Check.due("while a ballot is open", Check.IMPOSSIBLE, x.addClause(5, 5));
        Check.finish(x);
        Check.due("after a ballot", Check.IMPOSSIBLE, x.addClause(5, 5));
        Check.due("range before possibility", Check.INVALID, x.addClause(5, 10000));
        Check.due("undo the end", 3, x.undo());
        Check.due("undo the opening", 2, x.undo());
        Check.due("then no ballot was ever opened", 4, x.addClause(5, 5));
        CommitteeBallots full = Check.committee(1);
        for (int clause = 1; clause <= 20; clause++) {
            full.addClause(clause, 0);
        }
        full.open();
        Check.due("possibility before limit", Check.IMPOSSIBLE, full.addClause(21, 0));
    }

    private static void promise4Set() {
        int[] least = {1, 1, 1, 0, 1};
        int[] greatest = {100, 100, 60, 60, 5};
        int[] first = {50, 67, 30, 14, 2};
        CommitteeBallots x = new CommitteeBallots();
        for (int what = 0; what < 5; what++) {
            Check.due("below the range of " + what, Check.INVALID, x.set(what, least[what] - 1));
            Check.due("above the range of " + what, Check.INVALID, x.set(what, greatest[what] + 1));
            for (int far : Check.far()) {
                Check.due("far out of the range of " + what, Check.INVALID, x.set(what, far));
            }
            Check.due("the first value of " + what, first[what], x.set(what, least[what]));
            Check.due("the least value of " + what, least[what], x.set(what, greatest[what]));
            Check.due("the greatest value of " + what, greatest[what], x.count(20 + what));
        }
        Check.due("setting -1", Check.INVALID, x.set(-1, 1));
        Check.due("setting 5", Check.INVALID, x.set(5, 1));
        for (int far : Check.far()) {
            Check.due("setting far out of range", Check.INVALID, x.set(far, 1));
        }
        CommitteeBallots same = new CommitteeBallots();
        Check.due("the same value", 50, same.set(0, 50));
        Check.due("is a change, too", 1, same.count(9));
    }

    private static void promise4WhatSettingsChange() {
        CommitteeBallots x = Check.inBallot();
        x.set(2, 1);
        Check.due("the open ballot keeps its days", 30, x.count(11));
        Check.due("and does not end", 0, x.pass(29));
        x.vote(0, Check.APPROVE);
        Check.due("a quorum of half is not reached", 0, x.tally(5));
        x.set(0, 33);
        Check.due("a lower quorum counts at once", 1, x.tally(5));
        x.set(0, 34);
        Check.due("a third is less than 34 percent", 0, x.tally(5));
        Check.due("not carried", 1, x.pass(1));
        x.set(0, 1);
        Check.due("it stays as it counted", 0, x.tally(5));
        x.open();
        Check.due("the next ballot has the days set", 1, x.count(11));
        Check.due("lapsed is nobody", 0, x.member(1, 2));
        x.set(4, 1);
        Check.due("a lower lapse counts at once", 1, x.member(1, 2));
        Check.due("also for the active weight", 1, x.count(8));
    }

    private static void promise5Member() {
        CommitteeBallots x = Check.committee(7, 2);
        x.addClause(1, 1);
        for (int what = -1; what <= 6; what += 7) {
            Check.due("property " + what, Check.INVALID, x.member(0, what));
        }
        for (int far : Check.far()) {
            Check.due("property far out of range", Check.INVALID, x.member(0, far));
            Check.due("member far out of range", Check.INVALID, x.member(far, 0));
        }
        for (int what = 0; what <= 5; what++) {
            Check.due("member -1", Check.INVALID, x.member(-1, what));
            Check.due("member 2 of two", Check.INVALID, x.member(2, what));
        }
        x.open();
        x.vote(0, Check.DISAPPROVE);
        Check.due("the vote as given", Check.DISAPPROVE, x.member(0, 3));
        x.vote(0, Check.ABSTAIN);
        Check.due("the later vote", Check.ABSTAIN, x.member(0, 3));
        Check.due("no vote", Check.NOT_FOUND, x.member(1, 3));
        Check.due("the ballot has not ended", 0, x.member(0, 5));
        Check.finish(x);
        Check.due("the vote after the end", Check.ABSTAIN, x.member(0, 3));
        Check.due("ballots voted in", 1, x.member(0, 5));
        Check.due("ballots voted in by the other", 0, x.member(1, 5));
        Check.due("weight", 7, x.member(0, 0));
        x.open();
        Check.due("no vote in the new ballot", Check.NOT_FOUND, x.member(0, 3));
        x.vote(0, Check.DISAPPROVE);
        Check.finish(x);
        Check.due("given is disapproval, though it counts as abstention", Check.DISAPPROVE, x.member(0, 3));
        Check.due("two ballots voted in", 2, x.member(0, 5));
    }

    private static void promise5Lapse() {
        CommitteeBallots x = Check.committee(5, 3);
        x.addClause(1, 1);
        x.open();
        x.vote(0, Check.APPROVE);
        Check.finish(x);
        Check.due("misses of a voter", 0, x.member(0, 1));
        Check.due("misses of the other", 1, x.member(1, 1));
        Check.due("one miss is no lapse", 0, x.member(1, 2));
        x.open();
        x.vote(0, Check.APPROVE);
        Check.due("still active in the second", 8, x.tally(0));
        Check.finish(x);
        Check.due("by the misses before this end", 8, x.tally(0));
        Check.due("two misses", 2, x.member(1, 1));
        Check.due("are a lapse", 1, x.member(1, 2));
        Check.due("active weight now", 5, x.count(8));
        x.open();
        Check.due("a lapsed member can vote", 1, x.vote(1, Check.APPROVE));
        Check.due("active without the lapsed", 5, x.tally(0));
        Check.due("returned without the lapsed", 0, x.tally(1));
        Check.due("yes without the lapsed", 0, x.tally(2));
        Check.due("a lapsed member can comment", 0, x.comment(1, 1, Check.TECHNICAL, 2));
        x.vote(1, Check.DISAPPROVE);
        Check.due("no without the lapsed", 0, x.tally(3));
        x.vote(1, Check.ABSTAIN);
        Check.due("abstentions without the lapsed", 0, x.tally(4));
        Check.finish(x);
        Check.due("the vote ends the lapse", 0, x.member(1, 1));
        Check.due("and counts as a ballot voted in", 1, x.member(1, 5));
        Check.due("active again", 8, x.count(8));
        Check.due("the other missed one", 1, x.member(0, 1));
    }

    private static void promise5CommentsOfMembers() {
        CommitteeBallots x = Check.inBallot();
        x.comment(1, 10, Check.TECHNICAL, 101);
        x.comment(1, 20, Check.EDITORIAL, 201);
        x.comment(0, 20, Check.EDITORIAL, 202);
        Check.due("two comments", 2, x.member(1, 4));
        Check.due("one comment", 1, x.member(0, 4));
        Check.due("no comment", 0, x.member(2, 4));
        Check.carry(x);
        Check.due("of a carried ballot", 2, x.member(1, 4));
        x.resolve(Check.REJECT, 0);
        Check.due("resolved ones count, too", 2, x.member(1, 4));
        x.resolve(Check.REJECT, 0);
        x.resolve(Check.REJECT, 0);
        x.open();
        Check.due("none in the new ballot yet", 0, x.member(1, 4));
        x.comment(1, 10, Check.TECHNICAL, 101);
        Check.finish(x);
        Check.due("none of a ballot not carried", 0, x.member(1, 4));
    }

    private static void promise6Value() {
        CommitteeBallots x = Check.inBallot();
        Check.due("value", 200, x.value(20));
        Check.due("no such clause", Check.INVALID, x.value(21));
        Check.due("clause 0", Check.INVALID, x.value(0));
        for (int far : Check.far()) {
            Check.due("clause far out of range", Check.INVALID, x.value(far));
        }
        x.comment(0, 20, Check.TECHNICAL, 0);
        x.comment(0, 30, Check.TECHNICAL, 7);
        Check.due("a proposal changes no value", 200, x.value(20));
        Check.carry(x);
        Check.due("nor the end of the ballot", 200, x.value(20));
        x.resolve(Check.ACCEPT, 0);
        Check.due("a resolution does at once", 0, x.value(20));
        x.resolve(Check.MODIFY, 9999);
        Check.due("also by another value", 9999, x.value(30));
        Check.due("the other clause keeps its own", 100, x.value(10));
    }

    private static void promise7ValueIn() {
        CommitteeBallots x = Check.inBallot();
        Check.due("edition 0", Check.INVALID, x.valueIn(10, 0));
        Check.due("edition 2 of one", Check.INVALID, x.valueIn(10, 2));
        Check.due("no such clause", Check.INVALID, x.valueIn(11, 1));
        for (int far : Check.far()) {
            Check.due("edition far out of range", Check.INVALID, x.valueIn(10, far));
            Check.due("clause far out of range", Check.INVALID, x.valueIn(far, 1));
        }
        x.comment(0, 10, Check.TECHNICAL, 101);
        x.comment(0, 20, Check.TECHNICAL, 201);
        Check.carry(x);
        x.resolve(Check.ACCEPT, 0);
        Check.due("the edition keeps the value", 100, x.valueIn(10, 1));
        Check.due("the next one is not there yet", Check.INVALID, x.valueIn(10, 2));
        x.resolve(Check.REJECT, 0);
        Check.due("the value before", 100, x.valueIn(10, 1));
        Check.due("the value in edition 2", 101, x.valueIn(10, 2));
        Check.due("a value that stays", 200, x.valueIn(20, 2));
        x.appeal(0, 0, 7);
        Check.due("gone back", Check.INVALID, x.valueIn(10, 2));
        x.resolve(Check.MODIFY, 102);
        Check.due("another value in edition 2", 102, x.valueIn(10, 2));
        Check.due("edition 1 as ever", 100, x.valueIn(10, 1));
    }

    private static void promise8Clause() {
        CommitteeBallots x = new CommitteeBallots();
        x.addClause(7, 1);
        x.addClause(3, 1);
        Check.due("the lowest", 3, x.clause(0));
        Check.due("the next", 7, x.clause(1));
        Check.due("not so many", Check.NOT_FOUND, x.clause(2));
        Check.due("index -1", Check.INVALID, x.clause(-1));
        Check.due("index 20", Check.NOT_FOUND, x.clause(20));
        Check.due("the greatest index", Check.NOT_FOUND, x.clause(Integer.MAX_VALUE));
        Check.due("the least index", Check.INVALID, x.clause(Integer.MIN_VALUE));
    }

    private static void promise9Count() {
        CommitteeBallots x = Check.ordinary();
        for (int what : new int[] {-1, 12, 19, 25}) {
            Check.due("number " + what, Check.INVALID, x.count(what));
        }
        for (int far : Check.far()) {
            Check.due("number far out of range", Check.INVALID, x.count(far));
        }
        x.pass(3);
        x.open();
        Check.write(x, "10t");
        x.pass(4);
        x.vote(0, Check.APPROVE);
        x.comment(0, 10, Check.TECHNICAL, 101);
        x.comment(0, 20, Check.TECHNICAL, 201);
        int[] open = {3, 3, 1, 7, 1, 1, 2, 0, 3, 4, 3, 26};
        for (int what = 0; what < open.length; what++) {
            Check.due("open ballot: count " + what, open[what], x.count(what));
        }
        Check.carry(x);
        int[] carried = {3, 3, 1, 33, 0, 1, 2, 2, 3, 4, 3, 0};
        for (int what = 0; what < carried.length; what++) {
            Check.due("carried ballot: count " + what, carried[what], x.count(what));
        }
        x.resolve(Check.ACCEPT, 0);
        Check.due("pending after a resolution", 1, x.count(7));
        x.resolve(Check.ACCEPT, 0);
        Check.due("edition", 2, x.count(2));
        Check.due("comments stay", 2, x.count(6));
        x.open();
        Check.due("no comments of the new ballot", 0, x.count(6));
        Check.due("ballots", 2, x.count(5));
        x.comment(0, 10, Check.TECHNICAL, 102);
        Check.finish(x);
        Check.due("no comments of a ballot not carried", 0, x.count(6));
        Check.due("nor pending ones", 0, x.count(7));
    }
}
