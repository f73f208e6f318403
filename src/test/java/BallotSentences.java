import java.util.function.Supplier;

/** The sentences of promises 10 to 14: ballots, votes, days, tallies and what is lacking. */
final class BallotSentences {
    private BallotSentences() {
    }

    static void test() {
        open();
        openIsNotPossible();
        openReachesTheLimit();
        vote();
        voteErrors();
        pass();
        passErrors();
        tallyWhileOpen();
        tallyOfEach();
        tallyAsItCounted();
        tallyErrors();
        lacking();
        lackingIsTheLeast();
        lackingErrors();
    }

    private static void open() {
        Sentence.of("Promise 10", "`int open()`: Opens a ballot.");
        CommitteeBallots x = Check.ordinary();
        x.open();
        Check.due("open", 1, x.count(4));
        Check.due("with its days", 30, x.count(11));
        CommitteeBallots nobody = new CommitteeBallots();
        nobody.addClause(1, 0);
        Check.due("also without members", 1, nobody.open());
        Check.due("also on the last day", 1, Check.onDay(10000).open());
        Sentence.of("Promise 10", "Returns the number of ballots that were opened;");
        for (int ballot = 2; ballot <= 20; ballot++) {
            Check.finish(x);
            Check.due("ballots", ballot, x.open());
        }
    }

    private static void openIsNotPossible() {
        Sentence.of("Promise 10", "NOT_POSSIBLE if one is open,");
        Check.refused("just opened", Check.IMPOSSIBLE, Check::inBallot, CommitteeBallots::open);
        CommitteeBallots last = Check.inBallot();
        last.pass(29);
        Check.due("on its last day", Check.IMPOSSIBLE, last.open());
        last.pass(1);
        Check.due("ended", 2, last.open());
        Sentence.of("Promise 10", "a comment is pending,");
        Check.refused("one", Check.IMPOSSIBLE, () -> Check.pending(10), CommitteeBallots::open);
        Supplier<CommitteeBallots> oneLeft = () -> {
            CommitteeBallots x = Check.pending(10, 20);
            x.resolve(Check.ACCEPT, 0);
            return x;
        };
        Check.refused("one is left", Check.IMPOSSIBLE, oneLeft, CommitteeBallots::open);
        Supplier<CommitteeBallots> again = () -> {
            CommitteeBallots x = Check.accepted(10);
            x.appeal(0, 0, 7);
            return x;
        };
        Check.refused("again, by an appeal", Check.IMPOSSIBLE, again, CommitteeBallots::open);
        Sentence.of("Promise 10", "or there are no clauses;");
        Check.refused("a new object", Check.IMPOSSIBLE, CommitteeBallots::new, CommitteeBallots::open);
        Check.refused("members alone", Check.IMPOSSIBLE, () -> Check.committee(1, 2), CommitteeBallots::open);
    }

    private static void openReachesTheLimit() {
        Sentence.of("Promise 10", "LIMIT_REACHED if the edition is 12.");
        Check.refused("edition 12", Check.LIMIT, () -> Check.inEdition(12), CommitteeBallots::open);
        Check.due("edition 11", 11, Check.inEdition(11).open());
        CommitteeBallots back = Check.inEdition(12);
        back.appeal(0, 0, 1);
        Check.due("a comment is pending in edition 11", Check.IMPOSSIBLE, back.open());
        back.resolve(Check.REJECT, 0);
        Check.due("edition 11 again", 12, back.open());
    }

    private static void vote() {
        Sentence.of("Promise 11", "`int vote(int member, int vote)`: Votes.");
        for (int vote = 0; vote <= 2; vote++) {
            CommitteeBallots x = Check.inBallot();
            x.vote(1, vote);
            Check.due("as it was given", vote, x.member(1, 3));
            Check.due("of this member alone", Check.NOT_FOUND, x.member(0, 3));
        }
        Sentence.of("Promise 11", "`member`: number of the member");
        Check.takes(0, 2, Check::inBallot, (x, member) -> x.vote(member, Check.APPROVE));
        Supplier<CommitteeBallots> ten = () -> {
            CommitteeBallots x = Check.tenMembers();
            x.open();
            return x;
        };
        Check.takes(0, 9, ten, (x, member) -> x.vote(member, Check.APPROVE));
        Sentence.of("Promise 11", "`vote`: 0 to 2");
        Check.takes(0, 2, Check::inBallot, (x, vote) -> x.vote(0, vote));
        Sentence.of("Promise 11", "Returns how many members have voted;");
        CommitteeBallots x = ten.get();
        for (int member = 9; member >= 0; member--) {
            Check.due("one more", 10 - member, x.vote(member, Check.ABSTAIN));
            Check.due("not the same twice", 10 - member, x.vote(member, Check.APPROVE));
        }
        CommitteeBallots lapsed = Check.ordinary();
        lapsed.set(4, 1);
        lapsed.open();
        Check.finish(lapsed);
        lapsed.open();
        Check.due("the lapsed, too", 1, lapsed.vote(0, Check.APPROVE));
        Check.due("in this ballot alone", 2, lapsed.vote(1, Check.APPROVE));
    }

    private static void voteErrors() {
        Sentence.of("Promise 11", "INVALID_ARGUMENT if an argument is out of range;");
        Check.refused("both", Check.INVALID, Check::inBallot, x -> x.vote(3, 3));
        Check.refused("no ballot is open, and the member", Check.INVALID, Check::ordinary, x -> x.vote(3, 0));
        Check.refused("no ballot is open, and the vote", Check.INVALID, Check::ordinary, x -> x.vote(0, 3));
        Supplier<CommitteeBallots> nobody = () -> {
            CommitteeBallots x = new CommitteeBallots();
            x.addClause(1, 0);
            x.open();
            return x;
        };
        Check.refused("no members", Check.INVALID, nobody, x -> x.vote(0, 0));
        Sentence.of("Promise 11", "NOT_POSSIBLE if no ballot is open.");
        Check.refused("none was opened", Check.IMPOSSIBLE, Check::ordinary, x -> x.vote(0, 0));
        Check.refused("it has ended", Check.IMPOSSIBLE, () -> Check.accepted(10), x -> x.vote(0, 0));
        CommitteeBallots undone = Check.inBallot();
        undone.undo();
        Check.due("its opening was undone", Check.IMPOSSIBLE, undone.vote(0, 0));
    }

    private static void pass() {
        Sentence.of("Promise 12", "`int pass(int days)`: Lets days go by;");
        CommitteeBallots x = Check.ordinary();
        x.pass(1);
        Check.due("one", 1, x.count(3));
        x.pass(365);
        Check.due("a year", 366, x.count(3));
        Sentence.of("Promise 12", "a ballot whose days are over ends.");
        x.open();
        x.pass(29);
        Check.due("a day is left", 1, x.count(4));
        x.pass(1);
        Check.due("they are over", 0, x.count(4));
        x.open();
        x.pass(365);
        Check.due("long over", 0, x.count(4));
        Sentence.of("Promise 12", "`days`: 1 to 365");
        Check.takes(1, 365, Check::ordinary, CommitteeBallots::pass);
        Check.takes(1, 365, Check::inBallot, CommitteeBallots::pass);
        Sentence.of("Promise 12", "Returns 2 if a ballot ends and is carried, 1 if one ends and is not carried, "
                + "otherwise 0;");
        for (int yes = 0; yes <= 3; yes++) {
            CommitteeBallots voted = Check.inBallot();
            for (int member = 0; member < yes; member++) {
                voted.vote(member, Check.APPROVE);
            }
            Check.due("none ends", 0, voted.pass(29));
            Check.due("it ends with " + yes + " of 3", yes >= 2 ? 2 : 1, voted.pass(1));
            Check.due("nor again", 0, voted.pass(1));
        }
    }

    private static void passErrors() {
        Sentence.of("Promise 12", "INVALID_ARGUMENT if days is out of range;");
        for (int days : new int[] {0, -1, 366, 10001, 65536 + 1}) {
            Check.refused(days + " days", Check.INVALID, Check::inBallot, x -> x.pass(days));
            Check.refused(days + " days, on the last day", Check.INVALID, () -> Check.onDay(10000), x -> x.pass(days));
        }
        Sentence.of("Promise 12", "LIMIT_REACHED if today would be greater than 10000.");
        for (int days : new int[] {1, 2, 30, 364, 365}) {
            Check.due(days + " days to day 10000", 0, Check.onDay(10000 - days).pass(days));
            Check.refused(days + " days beyond", Check.LIMIT, () -> Check.onDay(10001 - days), x -> x.pass(days));
        }
        CommitteeBallots x = Check.onDay(9970);
        x.open();
        Check.due("no end beyond the last day", Check.LIMIT, x.pass(31));
        Check.due("still open", 1, x.count(4));
        Check.due("an end on it", 1, x.pass(30));
    }

    /** Members of the weights 1, 2, 4 and 8, and a technical comment of each in an open ballot. */
    private static CommitteeBallots weighed() {
        CommitteeBallots x = Check.committee(1, 2, 4, 8);
        x.addClause(10, 100);
        x.open();
        for (int member = 0; member < 4; member++) {
            x.comment(member, 10, Check.TECHNICAL, 101);
        }
        return x;
    }

    private static void tallyWhileOpen() {
        Sentence.of("Promise 13", "`int tally(int what)`: Returns a sum over the votes of the latest ballot, as they "
                + "would count if it ended now,");
        CommitteeBallots x = weighed();
        Check.due("no vote", 0, x.tally(1));
        x.vote(3, Check.APPROVE);
        Check.due("a vote", 8, x.tally(1));
        Check.due("would carry it", 1, x.tally(5));
        x.set(0, 60);
        Check.due("would not by a new quorum", 0, x.tally(5));
        x.undo();
        x.addMember(9);
        Check.due("nor with a new member", 0, x.tally(5));
        Check.due("who counts to the active weight", 24, x.tally(0));
        x.undo();
        x.undo();
        Check.due("the vote undone", 0, x.tally(1));
    }

    private static void tallyOfEach() {
        tallies("`what`: 0: the active weight;", 0, 15, 15, 15);
        tallies("1: the returned weight;", 1, 0, 15, 7);
        tallies("2: yes;", 2, 0, 1, 4);
        tallies("3: no;", 3, 0, 2, 2);
        tallies("4: the weight of abstentions;", 4, 0, 12, 1);
        tallies("5: 1 if it is carried, otherwise 0", 5, 0, 0, 0);
        CommitteeBallots x = weighed();
        x.set(0, 1);
        x.vote(0, Check.APPROVE);
        Check.due("a single yes", 1, x.tally(5));
        x.vote(0, Check.DISAPPROVE);
        Check.due("a single no", 0, x.tally(5));
    }

    /** A sum without votes, with yes 1, no 2, abstentions 4 and 8, and with abstention 1, no 2, yes 4. */
    private static void tallies(String words, int what, int empty, int all, int some) {
        Sentence.of("Promise 13", words);
        CommitteeBallots x = weighed();
        Check.due("no votes", empty, x.tally(what));
        x.vote(0, Check.APPROVE);
        x.vote(1, Check.DISAPPROVE);
        x.vote(2, Check.ABSTAIN);
        x.vote(3, Check.ABSTAIN);
        Check.due("all votes", all, x.tally(what));
        CommitteeBallots other = weighed();
        other.vote(0, Check.ABSTAIN);
        other.vote(1, Check.DISAPPROVE);
        other.vote(2, Check.APPROVE);
        Check.due("three votes", some, other.tally(what));
    }

    private static void tallyAsItCounted() {
        Sentence.of("Promise 13", "or, if it has ended, as they counted.");
        CommitteeBallots x = weighed();
        x.vote(1, Check.DISAPPROVE);
        x.vote(3, Check.APPROVE);
        x.set(4, 1);
        Check.due("carried", 2, Check.finish(x));
        x.set(0, 100);
        x.set(1, 100);
        x.addMember(9);
        int[] counted = {15, 10, 8, 2, 0, 1};
        for (int what = 0; what < 6; what++) {
            Check.due("sum " + what, counted[what], x.tally(what));
        }
        CommitteeBallots dropped = weighed();
        dropped.vote(1, Check.DISAPPROVE);
        Check.due("not carried", 1, Check.finish(dropped));
        Check.due("no, though its comment is dropped", 2, dropped.tally(3));
        dropped.undo();
        Check.due("its end undone", 2, dropped.tally(3));
        dropped.vote(1, Check.APPROVE);
        Check.due("it counts as it would now", 0, dropped.tally(3));
    }

    private static void tallyErrors() {
        Sentence.of("Promise 13", "Returns the sum; INVALID_ARGUMENT if what is out of range;");
        Check.takes(0, 5, Check::inBallot, CommitteeBallots::tally);
        Check.takes(0, 5, () -> Check.pending(10), CommitteeBallots::tally);
        Check.refused("no ballot was opened", Check.INVALID, Check::ordinary, x -> x.tally(6));
        Sentence.of("Promise 13", "NOT_FOUND if no ballot was opened.");
        for (int what = 0; what <= 5; what++) {
            int sum = what;
            Check.refused("sum " + what, Check.NOT_FOUND, Check::ordinary, x -> x.tally(sum));
        }
        CommitteeBallots undone = Check.inBallot();
        Check.due("opened", 3, undone.tally(0));
        undone.undo();
        Check.due("its opening was undone", Check.NOT_FOUND, undone.tally(0));
    }

    private static void lacking() {
        Sentence.of("Promise 14", "`int lacking()`: Returns the least additional weight of yes with which the open "
                + "ballot would be carried if it ended now, were it given by members who have not voted and who count "
                + "to the active weight already (so it adds to the returned weight and to yes, but not to the active "
                + "weight).");
        for (int quorum = 1; quorum <= 100; quorum++) {
            CommitteeBallots x = weighed();
            x.set(0, quorum);
            Check.due("no votes, quorum " + quorum, Math.max(1, (quorum * 15 + 99) / 100), x.lacking());
            x.vote(2, Check.ABSTAIN);
            Check.due("4 abstain, quorum " + quorum, Math.max(1, (quorum * 15 + 99) / 100 - 4), x.lacking());
        }
    }

    private static void lackingIsTheLeast() {
        Sentence.of("Promise 14", "Returns the weight, 0 if it would be carried,");
        for (int approval = 1; approval <= 99; approval++) {
            CommitteeBallots x = weighed();
            x.set(0, 1);
            x.set(1, approval);
            x.vote(1, Check.DISAPPROVE);
            // The least yes of which yes * 100 is at least approval * (yes + 2).
            int yes = (2 * approval + 99 - approval) / (100 - approval);
            Check.due("2 no, approval " + approval, yes, x.lacking());
            x.vote(0, Check.APPROVE);
            Check.due("1 yes", Math.max(0, yes - 1), x.lacking());
            x.vote(3, Check.APPROVE);
            Check.due("9 yes", Math.max(0, yes - 9), x.lacking());
            Check.due("carried if nothing is lacking", yes <= 9 ? 1 : 0, x.tally(5));
        }
        CommitteeBallots single = weighed();
        single.set(0, 1);
        Check.due("a voice is lacking", 1, single.lacking());
        single.vote(0, Check.APPROVE);
        Check.due("a single yes of weight 1 would carry it", 0, single.lacking());
        Sentence.of("Promise 14", "whether there is so much left or not (also beyond the active weight);");
        CommitteeBallots x = Check.committee(9, 9, 9, 9, 9, 9, 9, 9, 9, 9);
        x.addClause(10, 100);
        x.set(1, 99);
        x.open();
        for (int member = 0; member < 10; member++) {
            x.comment(member, 10, Check.TECHNICAL, 101);
            x.vote(member, Check.DISAPPROVE);
            Check.due("99 times the no", 99 * 9 * (member + 1), x.lacking());
        }
        x.set(0, 100);
        Check.due("all have voted", 8910, x.lacking());
    }

    private static void lackingErrors() {
        Sentence.of("Promise 14", "NOT_POSSIBLE if no ballot is open;");
        Check.refused("none was opened", Check.IMPOSSIBLE, Check::ordinary, CommitteeBallots::lacking);
        Check.refused("it has ended", Check.IMPOSSIBLE, () -> Check.pending(10), CommitteeBallots::lacking);
        Check.refused("without members", Check.IMPOSSIBLE, CommitteeBallots::new, CommitteeBallots::lacking);
        Sentence.of("Promise 14", "NOT_FOUND if the active weight is 0,");
        Supplier<CommitteeBallots> lapsed = () -> {
            CommitteeBallots x = Check.ordinary();
            x.set(4, 1);
            x.open();
            Check.finish(x);
            x.open();
            x.vote(0, Check.APPROVE);
            return x;
        };
        Check.refused("all are lapsed", Check.NOT_FOUND, lapsed, CommitteeBallots::lacking);
        CommitteeBallots nobody = new CommitteeBallots();
        nobody.addClause(1, 0);
        nobody.open();
        Check.due("without members", Check.NOT_FOUND, nobody.lacking());
        nobody.addMember(1);
        Check.due("with a member", 1, nobody.lacking());
        Sentence.of("Promise 14", "or no weight is enough.");
        CommitteeBallots x = weighed();
        x.set(1, 100);
        Check.due("approval of 100, no votes", 8, x.lacking());
        x.vote(3, Check.APPROVE);
        Check.due("yes alone", 0, x.lacking());
        x.vote(0, Check.DISAPPROVE);
        Check.due("the least no", Check.NOT_FOUND, x.lacking());
        x.set(1, 99);
        Check.due("approval of 99", 91, x.lacking());
    }
}
