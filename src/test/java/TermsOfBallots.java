import java.util.function.Supplier;

/** The sentences under "Terms" on numbers, members, the document and ballots. */
final class TermsOfBallots {
    private TermsOfBallots() {
    }

    static void test() {
        anObjectIsUsedFor512Calls();
        numbersAreWhole();
        membersAreAtMostTen();
        membersHaveWeightAndMisses();
        membersLapse();
        votesOfTheLapsedCountForNothing();
        missesGrow();
        clausesAreAtMostTwenty();
        editionIsOneAtFirst();
        clausesAreAddedBeforeTheFirstBallot();
        settingsHaveRanges();
        todayIsAtMost10000();
        noBallotIsOpenAtFirst();
        ballotsAreOpened();
        ballotsAreOpenForTheirDays();
        ballotsEndWithTheirDays();
        membersVoteWhileABallotIsOpen();
        laterVotesReplaceEarlierOnes();
        disapprovalNeedsATechnicalComment();
        activeWeightIsThatOfMembersWhoAreNotLapsed();
        returnedWeightIsThatOfVoters();
        yesAndNoAreThoseOfVoices();
        ballotsNeedTheQuorum();
        ballotsNeedActiveWeight();
        ballotsNeedAVoice();
        ballotsNeedTheApproval();
        commentsOfABallotNotCarriedAreDropped();
        commentsOfACarriedBallotBecomePending();
    }

    private static void anObjectIsUsedFor512Calls() {
        Sentence.of("What it is", "An object is used for at most 512 calls after it has been made");
        CommitteeBallots days = new CommitteeBallots();
        for (int call = 1; call <= 511; call++) {
            days.pass(1);
        }
        Check.due("the 512th call", 511, days.count(3));
        // Six calls set it up, nineteen write the text, and one opens the ballot.
        CommitteeBallots entered = Check.withText("10t=1;10t=1;10t=1;");
        entered.open();
        for (int call = 27; call <= 510; call += 2) {
            entered.enter(2);
            entered.undo();
        }
        Check.due("the 511th call", 3, entered.enter(1));
        Check.due("the 512th call", 3, entered.count(6));
    }

    private static void numbersAreWhole() {
        Sentence.of("Terms", "All numbers are whole numbers; divisions are rounded down.");
        CommitteeBallots x = Check.committee(6, 1, 3);
        x.addClause(10, 100);
        x.set(0, 67);
        x.open();
        x.vote(0, Check.APPROVE);
        Check.due("6 is less than 67 percent of 10, which is not rounded", 0, x.tally(5));
        Check.due("1 is the least whole weight that is lacking", 1, x.lacking());
        x.vote(1, Check.APPROVE);
        Check.due("7 is more", 1, x.tally(5));
    }

    private static void membersAreAtMostTen() {
        Sentence.of("Members", "There are at most 10 members, numbered from 0.");
        CommitteeBallots x = new CommitteeBallots();
        for (int member = 0; member < 10; member++) {
            Check.due("a number", member, x.addMember(1));
        }
        Check.due("the last one", 1, x.member(9, 0));
        Check.refused("an eleventh one", Check.LIMIT, Check::tenMembers, full -> full.addMember(1));
        Check.due("there is none of number 10", Check.INVALID, x.member(10, 0));
        Check.due("nor below 0", Check.INVALID, x.member(-1, 0));
    }

    private static void membersHaveWeightAndMisses() {
        Sentence.of("Members", "A member has a weight (1 to 9), and misses, initially 0.");
        CommitteeBallots x = new CommitteeBallots();
        for (int weight = 1; weight <= 9; weight++) {
            x.addMember(weight);
            Check.due("weight", weight, x.member(weight - 1, 0));
            Check.due("misses", 0, x.member(weight - 1, 1));
        }
        Check.takes(1, 9, CommitteeBallots::new, CommitteeBallots::addMember);
    }

    private static void membersLapse() {
        Sentence.of("Members", "A member whose misses are at least the lapse is lapsed");
        for (int lapse = 1; lapse <= 5; lapse++) {
            CommitteeBallots x = Check.ordinary();
            x.set(4, lapse);
            for (int misses = 0; misses <= 7; misses++) {
                Check.due("misses", misses, x.member(0, 1));
                Check.due(misses + " misses, lapse " + lapse, misses >= lapse ? 1 : 0, x.member(0, 2));
                Check.due("active weight", misses >= lapse ? 0 : 3, x.count(8));
                x.open();
                Check.finish(x);
            }
        }
    }

    private static void votesOfTheLapsedCountForNothing() {
        Sentence.of("Members", "such a member can vote and comment, but the vote counts for nothing.");
        CommitteeBallots x = Check.committee(1, 9);
        x.addClause(10, 100);
        x.set(4, 1);
        x.open();
        x.vote(0, Check.APPROVE);
        Check.finish(x);
        x.open();
        Check.due("comment", 0, x.comment(1, 10, Check.TECHNICAL, 101));
        for (int vote = 0; vote <= 2; vote++) {
            Check.due("vote", 1, x.vote(1, vote));
            Check.due("as it was given", vote, x.member(1, 3));
            for (int what = 1; what <= 5; what++) {
                Check.due("vote " + vote + " in tally " + what, 0, x.tally(what));
            }
        }
    }

    private static void missesGrow() {
        Sentence.of("Members", "At the end of a ballot the misses of a member who did not vote grow by 1, "
                + "those of the others become 0.");
        CommitteeBallots x = Check.ordinary();
        x.open();
        for (int ballot = 1; ballot <= 4; ballot++) {
            x.vote(1, ballot % 3);
            if (ballot == 4) {
                x.vote(0, Check.ABSTAIN);
            }
            x.pass(29);
            Check.due("before the end", ballot - 1, x.member(2, 1));
            x.pass(1);
            x.open();
            Check.due("of the one who never voted", ballot, x.member(2, 1));
            Check.due("of the one who always voted", 0, x.member(1, 1));
            Check.due("of the one who voted in the fourth", ballot % 4, x.member(0, 1));
        }
    }

    private static void clausesAreAtMostTwenty() {
        Sentence.of("Document", "The document has clauses, at most 20, each with a number (1 to 99) "
                + "and a value (0 to 9999)");
        Check.takes(1, 99, CommitteeBallots::new, (x, clause) -> x.addClause(clause, 5));
        Check.takes(0, 9999, CommitteeBallots::new, (x, value) -> x.addClause(5, value));
        CommitteeBallots x = Check.twentyClauses();
        Check.due("twenty", 20, x.count(1));
        Check.due("the last one", 20, x.clause(19));
        Check.refused("one more", Check.LIMIT, Check::twentyClauses, full -> full.addClause(21, 0));
    }

    private static void editionIsOneAtFirst() {
        Sentence.of("Document", "it is in its edition, initially 1.");
        Check.due("without clauses", 1, new CommitteeBallots().count(2));
        CommitteeBallots x = Check.ordinary();
        Check.due("with clauses", 1, x.count(2));
        Check.due("values are those of edition 1", 100, x.valueIn(10, 1));
        Check.due("there is no edition 0", Check.INVALID, x.changes(0));
        Check.due("there is no edition 2", Check.INVALID, x.changes(2));
    }

    private static void clausesAreAddedBeforeTheFirstBallot() {
        Sentence.of("Document", "Clauses can be added while there is no ballot yet (no ballot was ever opened).");
        CommitteeBallots x = new CommitteeBallots();
        Check.due("a ballot that can not be opened", Check.IMPOSSIBLE, x.open());
        Check.due("is none", 1, x.addClause(1, 1));
        Check.refused("in the first ballot", Check.IMPOSSIBLE, Check::inBallot, open -> open.addClause(1, 1));
        Supplier<CommitteeBallots> ended = () -> {
            CommitteeBallots late = Check.inBallot();
            Check.finish(late);
            return late;
        };
        Check.refused("after it", Check.IMPOSSIBLE, ended, late -> late.addClause(1, 1));
        x.open();
        x.undo();
        Check.due("after its opening was undone", 2, x.addClause(2, 1));
    }

    private static void settingsHaveRanges() {
        Sentence.of("Ballots", "The settings are (in parentheses: range; first value):");
        Check.takes(0, 4, CommitteeBallots::new, (x, what) -> x.set(what, 1));
        setting(0, "0 the quorum in percent (1 to 100; 50)", 1, 100, 50);
        setting(1, "1 the approval in percent (1 to 100; 67)", 1, 100, 67);
        setting(2, "2 the days of a ballot (1 to 60; 30)", 1, 60, 30);
        setting(3, "3 the days for appeals (0 to 60; 14)", 0, 60, 14);
        setting(4, "4 the lapse (1 to 5; 2)", 1, 5, 2);
    }

    private static void setting(int what, String words, int least, int greatest, int first) {
        Sentence.of("Ballots", words);
        Check.due("first value", first, new CommitteeBallots().count(20 + what));
        Check.takes(least, greatest, CommitteeBallots::new, (x, value) -> x.set(what, value));
        CommitteeBallots x = new CommitteeBallots();
        for (int value = least; value <= greatest; value++) {
            x.set(what, value);
            Check.due("value", value, x.count(20 + what));
        }
        for (int other = 0; other < 5; other++) {
            if (other != what) {
                Check.due("another setting", new CommitteeBallots().count(20 + other), x.count(20 + other));
            }
        }
    }

    private static void todayIsAtMost10000() {
        Sentence.of("Ballots", "There are days; today is initially 0, and at most 10000.");
        Check.due("initially", 0, new CommitteeBallots().count(3));
        Check.due("a day", 1, Check.onDay(1).count(3));
        CommitteeBallots x = Check.onDay(9999);
        Check.due("the last day", 0, x.pass(1));
        Check.due("today", 10000, x.count(3));
        Check.refused("a day beyond", Check.LIMIT, () -> Check.onDay(10000), late -> late.pass(1));
        Check.refused("two days", Check.LIMIT, () -> Check.onDay(9999), late -> late.pass(2));
        Check.refused("a year", Check.LIMIT, () -> Check.onDay(9636), late -> late.pass(365));
        Check.due("a year to the last day", 0, Check.onDay(9635).pass(365));
    }

    private static void noBallotIsOpenAtFirst() {
        Sentence.of("Ballots", "At first no ballot is open.");
        CommitteeBallots x = Check.ordinary();
        Check.due("none is open", 0, x.count(4));
        Check.due("none was opened", 0, x.count(5));
        Check.due("no days are left", 0, x.count(11));
        Check.due("nobody can vote", Check.IMPOSSIBLE, x.vote(0, Check.APPROVE));
        Check.due("none ends", 0, x.pass(365));
    }

    private static void ballotsAreOpened() {
        Sentence.of("Ballots", "A ballot can be opened if no ballot is open, no comment is pending, "
                + "and there is a clause");
        CommitteeBallots one = Check.committee(1);
        one.addClause(1, 0);
        Check.due("with a single clause", 1, one.open());
        Check.refused("one is open", Check.IMPOSSIBLE, Check::inBallot, CommitteeBallots::open);
        Check.refused("a comment is pending", Check.IMPOSSIBLE, () -> Check.pending(10), CommitteeBallots::open);
        Check.refused("no clause", Check.IMPOSSIBLE, Check::committee, CommitteeBallots::open);
        Check.due("all comments are resolved", 2, Check.accepted(10, 20).open());
    }

    private static void ballotsAreOpenForTheirDays() {
        Sentence.of("Ballots", "it is open today and the following days, as many as the days of a ballot were then;");
        for (int days : new int[] {1, 2, 59, 60}) {
            CommitteeBallots x = Check.onDay(7);
            x.set(2, days);
            x.open();
            x.set(2, 61 - days);
            for (int day = 0; day < days; day++) {
                Check.due("open on day " + day, 1, x.count(4));
                Check.due("days left", days - day, x.count(11));
                Check.due("ends", day == days - 1 ? 1 : 0, x.pass(1));
            }
            Check.due("closed", 0, x.count(4));
            x.open();
            Check.due("the next one has the days that were set", 61 - days, x.count(11));
        }
    }

    private static void ballotsEndWithTheirDays() {
        Sentence.of("Ballots", "it ends when the number of days since it was opened is at least this.");
        for (int days : new int[] {30, 31, 365}) {
            CommitteeBallots x = Check.inBallot();
            Check.due("after " + days + " days", 1, x.pass(days));
            Check.due("closed", 0, x.count(4));
            Check.due("days left", 0, x.count(11));
        }
        CommitteeBallots x = Check.inBallot();
        Check.due("after 29 days", 0, x.pass(29));
        Check.due("still open", 1, x.count(4));
        Check.due("a vote on its last day", 1, x.vote(0, Check.APPROVE));
        Check.due("after 30 days", 1, x.pass(1));
        Check.due("no vote then", Check.IMPOSSIBLE, x.vote(0, Check.APPROVE));
    }

    private static void membersVoteWhileABallotIsOpen() {
        Sentence.of("Ballots", "While it is open, each member can vote: 0 approve, 1 disapprove or 2 abstain;");
        CommitteeBallots x = Check.tenMembers();
        x.open();
        for (int member = 0; member < 10; member++) {
            Check.due("a vote", member + 1, x.vote(member, member % 3));
            Check.due("as it was given", member % 3, x.member(member, 3));
        }
        Check.due("approvals", 4, x.tally(2));
        Check.takes(0, 2, Check::inBallot, (open, vote) -> open.vote(0, vote));
        Check.refused("none is open", Check.IMPOSSIBLE, Check::ordinary, closed -> closed.vote(0, 0));
    }

    private static void laterVotesReplaceEarlierOnes() {
        Sentence.of("Ballots", "a later vote replaces an earlier one.");
        CommitteeBallots x = Check.inBallot();
        x.comment(0, 10, Check.TECHNICAL, 101);
        for (int votes = 0; votes < 9; votes++) {
            x.vote(0, votes / 3);
            Check.due("still one voter", 1, x.vote(0, votes % 3));
            Check.due("returned", 1, x.tally(1));
            for (int vote = 0; vote <= 2; vote++) {
                Check.due("weight of vote " + vote, vote == votes % 3 ? 1 : 0, x.tally(2 + vote));
            }
        }
    }

    private static void disapprovalNeedsATechnicalComment() {
        Sentence.of("Ballots", "When a ballot ends, a vote to disapprove of a member without a technical comment "
                + "in this ballot counts as an abstention.");
        CommitteeBallots x = Check.inBallot();
        x.vote(0, Check.DISAPPROVE);
        disapproval(x, "no comment", 0);
        x.comment(0, 10, Check.EDITORIAL, 101);
        disapproval(x, "an editorial one", 0);
        x.comment(1, 10, Check.TECHNICAL, 101);
        disapproval(x, "a technical one of another member", 0);
        x.comment(0, 20, Check.TECHNICAL, 201);
        disapproval(x, "a technical one", 1);
        x.undo();
        disapproval(x, "a technical one undone", 0);
        Check.finish(x);
        disapproval(x, "at the end", 0);
        CommitteeBallots again = Check.accepted(10);
        again.open();
        again.vote(0, Check.DISAPPROVE);
        disapproval(again, "a technical one of the ballot before", 0);
    }

    private static void disapproval(CommitteeBallots x, String about, int no) {
        Check.due(about + ": no", no, x.tally(3));
        Check.due(about + ": abstentions", 1 - no, x.tally(4));
        Check.due(about + ": returned", 1, x.tally(1));
    }

    private static void activeWeightIsThatOfMembersWhoAreNotLapsed() {
        Sentence.of("Ballots", "Let the active weight be the sum of the weights of all members who are not lapsed "
                + "(by their misses before this end)");
        CommitteeBallots x = Check.committee(1, 2, 4, 8);
        x.addClause(10, 100);
        x.set(4, 1);
        x.open();
        x.vote(0, Check.APPROVE);
        x.vote(2, Check.DISAPPROVE);
        Check.finish(x);
        Check.due("all, by the misses before", 15, x.tally(0));
        Check.due("now", 5, x.count(8));
        x.open();
        x.vote(3, Check.APPROVE);
        Check.finish(x);
        Check.due("without the lapsed, though one of them voted", 5, x.tally(0));
        Check.due("now", 8, x.count(8));
        CommitteeBallots nobody = new CommitteeBallots();
        nobody.addClause(1, 1);
        nobody.open();
        Check.due("without members", 0, nobody.tally(0));
    }

    private static void returnedWeightIsThatOfVoters() {
        Sentence.of("Ballots", ", the returned weight that of those of them who voted,");
        CommitteeBallots x = Check.committee(1, 2, 4, 8);
        x.addClause(10, 100);
        x.open();
        Check.due("nobody", 0, x.tally(1));
        x.vote(0, Check.APPROVE);
        Check.due("one who approves", 1, x.tally(1));
        x.vote(1, Check.ABSTAIN);
        Check.due("one who abstains, too", 3, x.tally(1));
        x.vote(2, Check.DISAPPROVE);
        Check.due("one who disapproves, too", 7, x.tally(1));
        x.vote(3, Check.APPROVE);
        Check.due("all", 15, x.tally(1));
    }

    private static void yesAndNoAreThoseOfVoices() {
        Sentence.of("Ballots", " and yes and no that of those who approve and disapprove.");
        CommitteeBallots x = Check.committee(1, 2, 4, 8);
        x.addClause(10, 100);
        x.open();
        for (int member = 0; member < 4; member++) {
            x.comment(member, 10, Check.TECHNICAL, 101);
        }
        for (int votes = 0; votes < 16; votes++) {
            for (int member = 0; member < 4; member++) {
                x.vote(member, votes >> member & 1);
            }
            Check.due("yes", 15 - votes, x.tally(2));
            Check.due("no", votes, x.tally(3));
        }
        x.vote(0, Check.ABSTAIN);
        Check.due("no without an abstention", 14, x.tally(3));
        Check.due("yes without an abstention", 0, x.tally(2));
    }

    private static void ballotsNeedTheQuorum() {
        Sentence.of("Ballots", "The ballot is carried if returned weight * 100 is at least quorum * active weight");
        for (int quorum = 1; quorum <= 100; quorum++) {
            CommitteeBallots x = Check.committee(9, 9, 5, 2);
            x.addClause(10, 100);
            x.set(0, quorum);
            x.open();
            int[] returned = {0, 9, 18, 23, 25};
            for (int votes = 1; votes <= 4; votes++) {
                x.vote(votes - 1, votes == 1 ? Check.APPROVE : Check.ABSTAIN);
                int carried = returned[votes] * 100 >= quorum * 25 ? 1 : 0;
                Check.due("returned " + returned[votes] + " of 25, quorum " + quorum, carried, x.tally(5));
            }
        }
        Check.due("50 of 63 are 79 percent", 1, fiftyOf63(79).tally(5));
        Check.due("but not 80", 0, fiftyOf63(80).tally(5));
    }

    /** The greatest sums in which one percent tells. */
    private static CommitteeBallots fiftyOf63(int quorum) {
        CommitteeBallots x = Check.committee(9, 9, 9, 9, 9, 5, 9, 4);
        x.addClause(10, 100);
        x.set(0, quorum);
        x.open();
        for (int member = 0; member < 6; member++) {
            x.vote(member, Check.APPROVE);
        }
        return x;
    }

    private static void ballotsNeedActiveWeight() {
        Sentence.of("Ballots", "active weight is above 0,");
        CommitteeBallots x = Check.ordinary();
        x.set(0, 1);
        x.set(1, 1);
        x.set(4, 1);
        x.open();
        Check.finish(x);
        x.open();
        x.vote(0, Check.APPROVE);
        Check.due("active weight", 0, x.tally(0));
        Check.due("all are lapsed", 0, x.tally(5));
        Check.due("not carried", 1, Check.finish(x));
        CommitteeBallots nobody = new CommitteeBallots();
        nobody.addClause(1, 1);
        nobody.open();
        Check.due("without members", 0, nobody.tally(5));
        Check.due("not carried", 1, Check.finish(nobody));
    }

    private static void ballotsNeedAVoice() {
        Sentence.of("Ballots", "yes + no is above 0,");
        CommitteeBallots x = Check.inBallot();
        x.set(0, 1);
        x.set(1, 1);
        Check.due("no vote", 0, x.tally(5));
        for (int member = 0; member < 3; member++) {
            x.vote(member, Check.ABSTAIN);
            Check.due("abstentions alone", 0, x.tally(5));
        }
        x.vote(1, Check.DISAPPROVE);
        Check.due("and a disapproval that counts as one", 0, x.tally(5));
        x.vote(1, Check.APPROVE);
        Check.due("one voice", 1, x.tally(5));
        x.vote(1, Check.ABSTAIN);
        Check.due("not carried", 1, Check.finish(x));
    }

    private static void ballotsNeedTheApproval() {
        Sentence.of("Ballots", "and yes * 100 is at least approval * (yes + no).");
        for (int approval = 1; approval <= 100; approval++) {
            CommitteeBallots x = Check.committee(9, 9, 2, 3, 2);
            x.addClause(10, 100);
            x.set(1, approval);
            x.open();
            for (int member = 0; member < 5; member++) {
                x.comment(member, 10, Check.TECHNICAL, 101);
                x.vote(member, Check.DISAPPROVE);
            }
            Check.due("only no", 0, x.tally(5));
            int[] yes = {9, 18, 20, 23, 25};
            for (int member = 0; member < 5; member++) {
                x.vote(member, Check.APPROVE);
                int carried = yes[member] * 100 >= approval * 25 ? 1 : 0;
                Check.due("yes " + yes[member] + " of 25, approval " + approval, carried, x.tally(5));
            }
        }
    }

    private static void commentsOfABallotNotCarriedAreDropped() {
        Sentence.of("Ballots", "The comments of a ballot that is not carried are dropped;");
        CommitteeBallots x = Check.withComments(30);
        Check.due("not carried", 1, Check.finish(x));
        Check.due("no comments", 0, x.count(6));
        Check.due("of no member", 0, x.member(0, 4));
        Check.due("none is told", Check.INVALID, x.told(0, 0));
        Check.due("none is pending", 0, x.count(7));
        Check.due("none is next", Check.NOT_FOUND, x.next());
        Check.due("the next ballot can be opened", 2, x.open());
        Check.due("and comments are numbered from 0", 0, x.comment(0, 10, Check.TECHNICAL, 101));
    }

    private static void commentsOfACarriedBallotBecomePending() {
        Sentence.of("Ballots", "those of a carried one become pending.");
        CommitteeBallots x = Check.withComments(30);
        Check.due("none is pending", 0, x.count(7));
        Check.due("carried", 2, Check.carry(x));
        Check.due("comments", 30, x.count(6));
        Check.due("pending", 30, x.count(7));
        for (int comment = 0; comment < 30; comment++) {
            Check.due("pending", 1, x.told(comment, 4));
        }
    }
}
