/** Promises 10 to 14: opening, voting, days, tallies and what is lacking. */
public final class BallotsTest {
    public static void main(String[] args) {
        promise10Open();
        promise10TheLastEdition();
        promise11Vote();
        promise12Pass();
        promise12TheLastDay();
        promise12EndsOfBallots();
        promise13Tally();
        promise13DisapprovalNeedsATechnicalComment();
        promise13Carried();
        promise13NearTheEdges();
        promise14Lacking();
        promise14NoWeightIsEnough();
        promise14IsTheLeastWeight();
        Check.end("BallotsTest");
    }

    private static void promise10Open() {
        CommitteeBallots x = Check.committee(1);
        Check.due("no clause", Check.IMPOSSIBLE, x.open());
        x.addClause(1, 1);
        Check.due("first", 1, x.open());
        Check.due("one is open", Check.IMPOSSIBLE, x.open());
        Check.finish(x);
        Check.due("second", 2, x.open());
        x.comment(0, 1, Check.EDITORIAL, 2);
        Check.carry(x);
        Check.due("a comment is pending", Check.IMPOSSIBLE, x.open());
        x.resolve(Check.REJECT, 0);
        Check.due("third", 3, x.open());
        x.undo();
        Check.due("undone", 2, x.count(5));
        Check.due("third again", 3, x.open());
        CommitteeBallots nobody = new CommitteeBallots();
        nobody.addClause(1, 1);
        Check.due("without members", 1, nobody.open());
    }

    private static void promise10TheLastEdition() {
        CommitteeBallots x = Check.committee(1);
        x.addClause(1, 0);
        x.set(2, 1);
        for (int edition = 2; edition <= 12; edition++) {
            Check.due("ballot for edition " + edition, edition - 1, x.open());
            x.comment(0, 1, Check.TECHNICAL, edition);
            Check.carry(x);
            x.resolve(Check.ACCEPT, 0);
            Check.due("edition", edition, x.count(2));
        }
        Check.due("edition 12", Check.LIMIT, x.open());
        Check.due("appeal", 1, x.appeal(0, 0, 1));
        Check.due("back in edition 11", 11, x.count(2));
        Check.due("pending before limit", Check.IMPOSSIBLE, x.open());
        x.resolve(Check.REJECT, 0);
        Check.due("edition 11 allows another ballot", 12, x.open());
    }

    private static void promise11Vote() {
        CommitteeBallots x = Check.ordinary();
        Check.due("no ballot is open", Check.IMPOSSIBLE, x.vote(0, 0));
        Check.due("range before possibility: member", Check.INVALID, x.vote(3, 0));
        Check.due("range before possibility: vote", Check.INVALID, x.vote(0, 3));
        x.open();
        Check.due("first voter", 1, x.vote(1, Check.APPROVE));
        Check.due("second voter", 2, x.vote(0, Check.ABSTAIN));
        Check.due("a later vote", 2, x.vote(1, Check.DISAPPROVE));
        Check.due("replaces the earlier one", Check.DISAPPROVE, x.member(1, 3));
        Check.due("vote -1", Check.INVALID, x.vote(0, -1));
        Check.due("vote 3", Check.INVALID, x.vote(0, 3));
        Check.due("member -1", Check.INVALID, x.vote(-1, 0));
        Check.due("member 3", Check.INVALID, x.vote(3, 0));
        for (int far : Check.far()) {
            Check.due("vote far out of range", Check.INVALID, x.vote(0, far));
            Check.due("member far out of range", Check.INVALID, x.vote(far, 0));
        }
        Check.due("third voter", 3, x.vote(2, Check.APPROVE));
        Check.finish(x);
        Check.due("after the end", Check.IMPOSSIBLE, x.vote(0, 0));
        x.open();
        Check.due("a new ballot starts without votes", 1, x.vote(2, Check.APPROVE));
    }

    private static void promise12Pass() {
        CommitteeBallots x = Check.ordinary();
        Check.due("0 days", Check.INVALID, x.pass(0));
        Check.due("366 days", Check.INVALID, x.pass(366));
        for (int far : Check.far()) {
            Check.due("days far out of range", Check.INVALID, x.pass(far));
        }
        Check.due("no ballot", 0, x.pass(365));
        Check.due("today", 365, x.count(3));
        x.open();
        Check.due("one day less", 0, x.pass(29));
        Check.due("still open", 1, x.count(4));
        Check.due("not carried", 1, x.pass(1));
        Check.due("closed", 0, x.count(4));
        Check.due("no more to end", 0, x.pass(30));
        x.set(2, 1);
        x.open();
        for (int member = 0; member < 3; member++) {
            x.vote(member, Check.APPROVE);
        }
        Check.due("carried, long over", 2, x.pass(300));
        Check.due("today is beyond its end", 725, x.count(3));
    }

    private static void promise12TheLastDay() {
        CommitteeBallots x = Check.ordinary();
        for (int turn = 0; turn < 27; turn++) {
            x.pass(365);
        }
        x.open();
        Check.due("today would be 10001", Check.LIMIT, x.pass(146));
        Check.due("range before limit", Check.INVALID, x.pass(366));
        Check.due("the ballot is still open", 1, x.count(4));
        Check.due("to day 10000", 1, x.pass(145));
        Check.due("today", 10000, x.count(3));
        Check.due("no day is left", Check.LIMIT, x.pass(1));
        Check.due("a ballot can be opened yet", 2, x.open());
        Check.due("with all its days", 30, x.count(11));
    }

    private static void promise12EndsOfBallots() {
        CommitteeBallots x = Check.inBallot();
        x.vote(0, Check.APPROVE);
        x.vote(1, Check.ABSTAIN);
        x.comment(2, 10, Check.TECHNICAL, 101);
        Check.due("carried", 2, Check.finish(x));
        Check.due("its comment is pending", 1, x.count(7));
        Check.due("misses of the silent one", 1, x.member(2, 1));
        Check.due("misses of the one who abstained", 0, x.member(1, 1));
        x.resolve(Check.REJECT, 0);
        x.open();
        x.comment(2, 10, Check.TECHNICAL, 101);
        Check.due("not carried", 1, Check.finish(x));
        Check.due("its comment is dropped", Check.INVALID, x.told(0, 0));
        Check.due("misses grow", 2, x.member(2, 1));
        x.open();
        Check.due("a carried ballot without comments", 2, Check.carry(x));
        Check.due("leaves none pending", 0, x.count(7));
        Check.due("and the edition as it was", 1, x.count(2));
        Check.due("the next ballot can be opened", 4, x.open());
    }

    private static void promise13Tally() {
        CommitteeBallots x = Check.committee(3, 1, 5, 2, 9);
        x.addClause(10, 100);
        Check.due("sum -1", Check.INVALID, x.tally(-1));
        Check.due("sum 6", Check.INVALID, x.tally(6));
        for (int far : Check.far()) {
            Check.due("sum far out of range", Check.INVALID, x.tally(far));
        }
        for (int what = 0; what < 6; what++) {
            Check.due("no ballot was opened", Check.NOT_FOUND, x.tally(what));
        }
        x.open();
        tallies(x, "no votes", 20, 0, 0, 0, 0, 0);
        x.vote(0, Check.APPROVE);
        x.vote(1, Check.DISAPPROVE);
        x.vote(2, Check.ABSTAIN);
        tallies(x, "three votes", 20, 9, 3, 0, 6, 0);
        x.comment(1, 10, Check.TECHNICAL, 1);
        tallies(x, "a disapproval", 20, 9, 3, 1, 5, 0);
        x.vote(3, Check.APPROVE);
        tallies(x, "carried", 20, 11, 5, 1, 5, 1);
        Check.finish(x);
        x.set(1, 100);
        x.set(4, 1);
        Check.due("active weight now", 11, x.count(8));
        tallies(x, "as they counted", 20, 11, 5, 1, 5, 1);
        x.resolve(Check.REJECT, 0);
        x.open();
        tallies(x, "a new ballot", 11, 0, 0, 0, 0, 0);
        x.vote(4, Check.APPROVE);
        tallies(x, "a lapsed vote", 11, 0, 0, 0, 0, 0);
        x.set(4, 2);
        tallies(x, "not lapsed any more", 20, 9, 9, 0, 0, 0);
        x.undo();
        tallies(x, "undone", 11, 0, 0, 0, 0, 0);
    }

    private static void promise13DisapprovalNeedsATechnicalComment() {
        CommitteeBallots x = Check.committee(1, 1, 1);
        x.addClause(10, 100);
        x.open();
        x.vote(0, Check.APPROVE);
        x.vote(1, Check.DISAPPROVE);
        tallies(x, "without a comment", 3, 2, 1, 0, 1, 1);
        x.comment(1, 10, Check.EDITORIAL, 1);
        tallies(x, "with an editorial one", 3, 2, 1, 0, 1, 1);
        x.comment(0, 10, Check.TECHNICAL, 1);
        tallies(x, "with a technical one of another member", 3, 2, 1, 0, 1, 1);
        x.comment(1, 10, Check.TECHNICAL, 1);
        tallies(x, "with a technical one", 3, 2, 1, 1, 0, 0);
        Check.due("not carried", 1, Check.finish(x));
        tallies(x, "as they counted, though the comments are dropped", 3, 2, 1, 1, 0, 0);
        x.open();
        x.vote(0, Check.APPROVE);
        x.vote(1, Check.DISAPPROVE);
        tallies(x, "a technical one of an earlier ballot", 3, 2, 1, 0, 1, 1);
    }

    private static void promise13Carried() {
        CommitteeBallots x = Check.committee(4, 2, 4);
        x.addClause(10, 100);
        x.open();
        x.comment(1, 10, Check.TECHNICAL, 1);
        x.vote(2, Check.ABSTAIN);
        x.set(0, 40);
        Check.due("abstentions alone carry nothing", 0, x.tally(5));
        x.vote(0, Check.APPROVE);
        x.set(0, 80);
        Check.due("exactly the quorum", 1, x.tally(5));
        x.set(0, 81);
        Check.due("below the quorum", 0, x.tally(5));
        x.vote(1, Check.DISAPPROVE);
        x.set(1, 66);
        Check.due("two thirds are at least 66 percent", 1, x.tally(5));
        x.set(1, 67);
        Check.due("two thirds are less than 67 percent", 0, x.tally(5));
        x.vote(2, Check.APPROVE);
        x.set(1, 80);
        Check.due("exactly the approval", 1, x.tally(5));
        x.set(1, 81);
        Check.due("below the approval", 0, x.tally(5));
        CommitteeBallots lapsed = Check.committee(1);
        lapsed.addClause(10, 100);
        lapsed.set(4, 1);
        lapsed.open();
        Check.finish(lapsed);
        lapsed.open();
        lapsed.vote(0, Check.APPROVE);
        tallies(lapsed, "all are lapsed", 0, 0, 0, 0, 0, 0);
    }

    /** Weights great enough that one percent is told apart. */
    private static void promise13NearTheEdges() {
        CommitteeBallots x = Check.committee(9, 9, 9, 9, 9, 5, 9, 4);
        x.addClause(10, 100);
        x.open();
        for (int member = 0; member < 6; member++) {
            x.vote(member, Check.APPROVE);
        }
        x.set(0, 80);
        Check.due("50 of 63 are less than 80 percent", 0, x.tally(5));
        Check.due("one is lacking", 1, x.lacking());
        x.set(0, 79);
        Check.due("but not than 79", 1, x.tally(5));
        x.vote(6, Check.DISAPPROVE);
        x.vote(7, Check.DISAPPROVE);
        x.comment(6, 10, Check.TECHNICAL, 1);
        x.comment(7, 10, Check.TECHNICAL, 1);
        x.set(1, 80);
        Check.due("50 to 13 is less than 80 percent", 0, x.tally(5));
        Check.due("two are lacking", 2, x.lacking());
        x.set(1, 79);
        Check.due("but not than 79", 1, x.tally(5));
    }

    private static void tallies(CommitteeBallots x, String about, int... due) {
        for (int what = 0; what < due.length; what++) {
            Check.due(about + ": tally " + what, due[what], x.tally(what));
        }
    }

    private static void promise14Lacking() {
        CommitteeBallots x = Check.committee(3, 1, 5, 2, 9);
        x.addClause(10, 100);
        Check.due("no ballot is open", Check.IMPOSSIBLE, x.lacking());
        x.open();
        Check.due("half of 20", 10, x.lacking());
        x.set(0, 51);
        Check.due("51 percent of 20, rounded up", 11, x.lacking());
        x.vote(2, Check.ABSTAIN);
        Check.due("abstentions count for the quorum", 6, x.lacking());
        x.set(0, 1);
        Check.due("a quorum reached, but no voice", 1, x.lacking());
        x.vote(1, Check.DISAPPROVE);
        Check.due("a disapproval that counts as abstention", 1, x.lacking());
        x.comment(1, 10, Check.TECHNICAL, 1);
        Check.due("a yes of 67 percent against 1", 3, x.lacking());
        x.vote(0, Check.APPROVE);
        Check.due("it would be carried", 0, x.lacking());
        x.set(1, 99);
        Check.due("beyond the active weight", 96, x.lacking());
        Check.finish(x);
        Check.due("the ballot has ended", Check.IMPOSSIBLE, x.lacking());
    }

    private static void promise14NoWeightIsEnough() {
        CommitteeBallots x = Check.committee(2, 2);
        x.addClause(10, 100);
        x.set(1, 100);
        x.set(4, 1);
        x.open();
        Check.due("approval of 100 without a no", 2, x.lacking());
        x.comment(0, 10, Check.TECHNICAL, 1);
        x.vote(0, Check.DISAPPROVE);
        Check.due("approval of 100 against a no", Check.NOT_FOUND, x.lacking());
        x.set(1, 99);
        Check.due("approval of 99 against it", 198, x.lacking());
        x.vote(0, Check.ABSTAIN);
        x.vote(1, Check.APPROVE);
        Check.due("carried", 2, Check.finish(x));
        x.resolve(Check.REJECT, 0);
        x.open();
        Check.finish(x);
        x.open();
        Check.due("all are lapsed", Check.NOT_FOUND, x.lacking());
        x.vote(0, Check.APPROVE);
        Check.due("their votes do not help", Check.NOT_FOUND, x.lacking());
        CommitteeBallots single = Check.committee(1, 1);
        single.addClause(10, 100);
        single.set(1, 100);
        single.open();
        single.vote(0, Check.APPROVE);
        Check.due("a yes of weight 1 is enough", 0, single.lacking());
        single.vote(0, Check.DISAPPROVE);
        single.comment(0, 10, Check.TECHNICAL, 1);
        Check.due("a no of weight 1 is too much", Check.NOT_FOUND, single.lacking());
        CommitteeBallots nobody = new CommitteeBallots();
        nobody.addClause(1, 1);
        nobody.open();
        Check.due("there are no members", Check.NOT_FOUND, nobody.lacking());
    }

    /** Tries all weights from 0, by the words of the document. */
    private static void promise14IsTheLeastWeight() {
        for (int approval = 1; approval <= 100; approval += 3) {
            CommitteeBallots x = Check.committee(9, 8, 7, 6, 5);
            x.addClause(10, 100);
            x.open();
            x.set(1, approval);
            x.comment(1, 10, Check.TECHNICAL, 1);
            for (int votes = 0; votes < 27; votes++) {
                x.vote(0, votes % 3);
                x.vote(1, votes / 3 % 3);
                x.vote(2, votes / 9);
                x.set(0, 1 + (votes * 37 + approval) % 100);
                Check.due("the least weight of yes", leastWeight(x), x.lacking());
            }
        }
    }

    private static int leastWeight(CommitteeBallots x) {
        int active = x.tally(0);
        int returned = x.tally(1);
        int yes = x.tally(2);
        int no = x.tally(3);
        int quorum = x.count(20);
        int approval = x.count(21);
        for (int more = 0; more < 20000; more++) {
            int voices = yes + no + more;
            if ((returned + more) * 100 >= quorum * active && voices > 0
                    && (yes + more) * 100 >= approval * voices) {
                return more;
            }
        }
        return Check.NOT_FOUND;
    }
}
