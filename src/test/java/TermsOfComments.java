import java.util.function.Supplier;

/** The sentences under "Terms" on comments and appeals. */
final class TermsOfComments {
    private TermsOfComments() {
    }

    static void test() {
        membersCommentWhileABallotIsOpen();
        commentsAreAtMostThirty();
        commentsHaveTheirParts();
        commentsAreNumberedInEachBallot();
        technicalCommentsComeFirst();
        thenLowerClauses();
        thenGreaterWeights();
        thenLowerNumbers();
        acceptingGivesTheProposedValue();
        modifyingGivesAToldValue();
        rejectingGivesNone();
        aChangedClauseGetsNoOtherValue();
        anAppealLetsItGetAny();
        theEditionComesBehindTheLastComment();
        theEditionComesAtOnceWithoutComments();
        theEditionNeedsAnotherValue();
        changesAreToldByClause();
        appealsAreAgainstTheLatestBallot();
        appealsNeedNoOpenBallot();
        appealsHaveTheirDays();
        appealsAreDecidedByWeights();
        appealsNeedMoreThanHalf();
        appealsWhileOthersArePending();
        appealedCommentsArePendingAgain();
        appealsTakeTheChangeBack();
        appealsKeepWhatAnotherCommentGave();
        appealsTakeTheEditionBack();
        theEditionComesAgain();
    }

    private static void membersCommentWhileABallotIsOpen() {
        Sentence.of("Comments", "While a ballot is open, members can comment,");
        Check.refused("none was opened", Check.IMPOSSIBLE, Check::ordinary, x -> x.comment(0, 10, 1, 101));
        Check.refused("it has ended", Check.IMPOSSIBLE, () -> Check.accepted(10), x -> x.comment(0, 10, 1, 102));
        CommitteeBallots x = Check.tenMembers();
        x.open();
        for (int member = 0; member < 10; member++) {
            Check.due("a comment", member, x.comment(member, 10, member % 2, 101));
        }
        x.pass(29);
        Check.due("on the last day", 10, x.comment(0, 10, 1, 101));
        x.pass(1);
        Check.due("a day later", Check.IMPOSSIBLE, x.comment(0, 10, 1, 101));
    }

    private static void commentsAreAtMostThirty() {
        Sentence.of("Comments", "at most 30 comments in a ballot");
        Check.due("the thirtieth", 29, Check.withComments(29).comment(2, 20, Check.EDITORIAL, 0));
        Check.refused("one more", Check.LIMIT, () -> Check.withComments(30), x -> x.comment(2, 20, 0, 0));
        CommitteeBallots x = Check.withComments(30);
        Check.finish(x);
        x.open();
        for (int comment = 0; comment < 30; comment++) {
            Check.due("in the next ballot", comment, x.comment(1, 30, Check.EDITORIAL, 301));
        }
        Check.due("one more", Check.LIMIT, x.comment(1, 30, Check.EDITORIAL, 301));
    }

    private static void commentsHaveTheirParts() {
        Sentence.of("Comments", "a comment has a member, a clause, a kind (0 editorial, 1 technical) "
                + "and a proposed value;");
        CommitteeBallots x = Check.inBallot();
        int[][] comments = {{0, 10, 0, 0}, {2, 30, 1, 9999}, {1, 20, 0, 201}};
        for (int number = 0; number < comments.length; number++) {
            int[] parts = comments[number];
            Check.due("its number", number, x.comment(parts[0], parts[1], parts[2], parts[3]));
        }
        for (int number = 0; number < comments.length; number++) {
            for (int what = 0; what < 4; what++) {
                Check.due("part " + what, comments[number][what], x.told(number, what));
            }
        }
        Check.takes(0, 1, Check::inBallot, (open, kind) -> open.comment(0, 10, kind, 101));
        Check.takes(0, 9999, Check::inBallot, (open, value) -> open.comment(0, 10, 1, value));
    }

    private static void commentsAreNumberedInEachBallot() {
        Sentence.of("Comments", "comments are numbered from 0 in each ballot.");
        CommitteeBallots x = Check.accepted(10, 20);
        x.open();
        Check.due("the first of the second ballot", 0, x.comment(1, 30, Check.EDITORIAL, 301));
        Check.due("the second", 1, x.comment(2, 30, Check.EDITORIAL, 302));
        Check.due("it is told", 1, x.told(0, 0));
        Check.due("in an open ballot", 0, x.told(0, 4));
        Check.due("not resolved", Check.NOT_FOUND, x.told(0, 5));
        Check.due("without a value", Check.NOT_FOUND, x.told(0, 6));
    }

    private static void technicalCommentsComeFirst() {
        Sentence.of("Comments", "Pending comments are resolved in the order of their ranks: technical ones first,");
        CommitteeBallots x = Check.committee(9, 1);
        x.addClause(10, 100);
        x.addClause(20, 200);
        x.open();
        x.comment(0, 10, Check.EDITORIAL, 101);
        x.comment(1, 20, Check.TECHNICAL, 201);
        order(x, 1, 0);
    }

    private static void thenLowerClauses() {
        Sentence.of("Comments", "then by ascending clauses,");
        CommitteeBallots x = Check.committee(9, 1);
        x.addClause(99, 0);
        x.addClause(1, 0);
        x.addClause(50, 0);
        x.open();
        for (int kind = 0; kind <= 1; kind++) {
            x.comment(0, 99, kind, 1);
            x.comment(0, 50, kind, 1);
            x.comment(1, 1, kind, 1);
        }
        order(x, 5, 4, 3, 2, 1, 0);
    }

    private static void thenGreaterWeights() {
        Sentence.of("Comments", "then by descending weights of their members,");
        CommitteeBallots x = Check.committee(8, 1, 9);
        x.addClause(10, 100);
        x.open();
        for (int kind = 0; kind <= 1; kind++) {
            x.comment(1, 10, kind, 101);
            x.comment(0, 10, kind, 101);
            x.comment(2, 10, kind, 101);
        }
        order(x, 5, 4, 3, 2, 1, 0);
    }

    private static void thenLowerNumbers() {
        Sentence.of("Comments", "then by ascending numbers.");
        CommitteeBallots x = Check.committee(5, 5, 5);
        x.addClause(10, 100);
        x.open();
        for (int comment = 0; comment < 30; comment++) {
            x.comment(2 - comment % 3, 10, Check.EDITORIAL, 130 - comment);
        }
        int[] numbers = new int[30];
        for (int number = 0; number < 30; number++) {
            numbers[number] = number;
        }
        order(x, numbers);
    }

    private static void order(CommitteeBallots x, int... numbers) {
        Check.carry(x);
        for (int rank = 0; rank < numbers.length; rank++) {
            Check.due("of rank " + rank, numbers[rank], x.next());
            Check.due("remaining", numbers.length - rank - 1, x.resolve(Check.REJECT, 0));
            Check.due("resolved", 4, x.told(numbers[rank], 4));
        }
        Check.due("no more", Check.NOT_FOUND, x.next());
    }

    private static void acceptingGivesTheProposedValue() {
        Sentence.of("Comments", "To resolve a comment is to accept it (0: the clause gets the proposed value),");
        for (int value : new int[] {0, 101, 9999}) {
            CommitteeBallots x = Check.inBallot();
            x.comment(0, 10, Check.EDITORIAL, value);
            Check.carry(x);
            Check.due("before", 100, x.value(10));
            Check.due("accepted", 0, x.resolve(Check.ACCEPT, 0));
            Check.due("the proposed value", value, x.value(10));
            Check.due("accepted", 2, x.told(0, 4));
            Check.due("another clause", 200, x.value(20));
        }
    }

    private static void modifyingGivesAToldValue() {
        Sentence.of("Comments", "to modify it (1: the clause gets a value that is told, any one that it can get)");
        for (int value : new int[] {0, 100, 101, 102, 9999}) {
            CommitteeBallots x = Check.pending(10);
            Check.due("modified", 0, x.resolve(Check.MODIFY, value));
            Check.due("the told value", value, x.value(10));
            Check.due("modified", 3, x.told(0, 4));
            Check.due("the value it got", value, x.told(0, 6));
            Check.due("the proposed value", 101, x.told(0, 3));
            Check.due("an edition but for the value it had", value == 100 ? 1 : 2, x.count(2));
        }
        Check.takes(0, 9999, () -> Check.pending(10), (x, value) -> x.resolve(Check.MODIFY, value));
    }

    private static void rejectingGivesNone() {
        Sentence.of("Comments", "or to reject it (2).");
        CommitteeBallots x = Check.pending(10);
        Check.due("rejected", 0, x.resolve(Check.REJECT, 0));
        Check.due("the value it had", 100, x.value(10));
        Check.due("rejected", 4, x.told(0, 4));
        Check.due("no value by it", Check.NOT_FOUND, x.told(0, 6));
        Check.takes(0, 2, () -> Check.pending(10), (pending, decision) -> pending.resolve(decision, 0));
    }

    /** Three pending comments on clause 10, of which the first gave it the value 101. */
    private static CommitteeBallots changedClause() {
        CommitteeBallots x = Check.inBallot();
        x.comment(0, 10, Check.TECHNICAL, 101);
        x.comment(0, 10, Check.TECHNICAL, 102);
        x.comment(0, 10, Check.TECHNICAL, 101);
        Check.carry(x);
        x.resolve(Check.ACCEPT, 0);
        return x;
    }

    private static void aChangedClauseGetsNoOtherValue() {
        Sentence.of("Comments", "While a clause has a value other than at the beginning of this ballot, it can get "
                + "no value but this one by another resolution of it");
        Check.refused("the proposed value", Check.IMPOSSIBLE, TermsOfComments::changedClause,
                x -> x.resolve(Check.ACCEPT, 0));
        for (int value : new int[] {0, 100, 102, 9999}) {
            Check.refused("the value " + value, Check.IMPOSSIBLE, TermsOfComments::changedClause,
                    x -> x.resolve(Check.MODIFY, value));
        }
        CommitteeBallots x = changedClause();
        Check.due("this one by modifying", 1, x.resolve(Check.MODIFY, 101));
        Check.due("this one by accepting", 0, x.resolve(Check.ACCEPT, 0));
        Check.due("the value", 101, x.value(10));
        Check.due("a rejection is always possible", 1, changedClause().resolve(Check.REJECT, 0));
        CommitteeBallots next = Check.accepted(10);
        next.open();
        next.comment(0, 10, Check.TECHNICAL, 102);
        Check.carry(next);
        Check.due("in the next ballot it can get another", 0, next.resolve(Check.ACCEPT, 0));
        Check.due("the value", 102, next.value(10));
    }

    private static void anAppealLetsItGetAny() {
        Sentence.of("Comments", "(an appeal can take the value back, see below; then it can get any).");
        for (int value : new int[] {0, 100, 101, 102, 9999}) {
            CommitteeBallots x = changedClause();
            x.resolve(Check.MODIFY, 101);
            x.appeal(0, 0, 7);
            Check.due("another resolution still holds it", 101, x.value(10));
            int holds = value == 101 ? 1 : Check.IMPOSSIBLE;
            Check.due("so it gets no other than this", holds, x.resolve(Check.MODIFY, value));
            if (value == 101) {
                x.appeal(0, 0, 7);
            }
            x.appeal(1, 0, 7);
            Check.due("taken back", 100, x.value(10));
            Check.due("then it can get any", 2, x.resolve(Check.MODIFY, value));
            Check.due("the value", value, x.value(10));
        }
    }

    private static void theEditionComesBehindTheLastComment() {
        Sentence.of("Comments", "When no comment is pending any more behind a carried ballot");
        CommitteeBallots x = Check.pending(10, 20, 30);
        for (int left = 2; left >= 0; left--) {
            Check.due("the edition before", 1, x.count(2));
            Check.due("pending", left, x.resolve(Check.ACCEPT, 0));
        }
        Check.due("the next edition", 2, x.count(2));
        CommitteeBallots last = Check.pending(10, 20);
        last.resolve(Check.ACCEPT, 0);
        last.resolve(Check.REJECT, 0);
        Check.due("also behind a rejection", 2, last.count(2));
    }

    private static void theEditionComesAtOnceWithoutComments() {
        Sentence.of("Comments", "(at once, if it had none),");
        CommitteeBallots x = Check.inBallot();
        Check.due("carried", 2, Check.carry(x));
        Check.due("none is pending", 0, x.count(7));
        Check.due("no value is another, so the edition is as before", 1, x.count(2));
        Check.due("and the next ballot can be opened at once", 2, x.open());
    }

    private static void theEditionNeedsAnotherValue() {
        Sentence.of("Comments", "the document comes into the next edition, if some clause has a value other than "
                + "in the present edition;");
        CommitteeBallots x = Check.pending(10, 20, 30);
        x.resolve(Check.REJECT, 0);
        x.resolve(Check.MODIFY, 200);
        x.resolve(Check.REJECT, 0);
        Check.due("no other value", 1, x.count(2));
        x.open();
        x.comment(0, 30, Check.TECHNICAL, 301);
        Check.carry(x);
        x.resolve(Check.ACCEPT, 0);
        Check.due("one other value", 2, x.count(2));
        x.open();
        x.comment(0, 30, Check.TECHNICAL, 300);
        Check.carry(x);
        x.resolve(Check.ACCEPT, 0);
        Check.due("other than in edition 2, though that of edition 1", 3, x.count(2));
        for (int decision = 0; decision <= 2; decision++) {
            CommitteeBallots full = Check.twentyClauses();
            full.open();
            full.comment(0, 20, Check.TECHNICAL, 5);
            Check.carry(full);
            full.resolve(decision, 0);
            Check.due("of twenty clauses the last one alone", decision == Check.ACCEPT ? 2 : 1, full.count(2));
        }
    }

    private static void changesAreToldByClause() {
        Sentence.of("Comments", "the changes of an edition are told by clause, with the comment that brought it.");
        CommitteeBallots x = Check.accepted(30, 10);
        Check.due("changes", 2, x.changes(2));
        Check.due("the lowest clause", 10, x.change(2, 0, 0));
        Check.due("its comment", 1, x.change(2, 0, 2));
        Check.due("the next clause", 30, x.change(2, 1, 0));
        Check.due("its comment", 0, x.change(2, 1, 2));
    }

    private static void appealsAreAgainstTheLatestBallot() {
        Sentence.of("Appeals", "A member can appeal against a resolution of the latest ballot, if it is carried,");
        Check.due("of a carried one", 1, Check.accepted(10).appeal(0, 0, 7));
        CommitteeBallots next = Check.accepted(10, 20);
        next.open();
        next.comment(1, 30, Check.TECHNICAL, 301);
        Check.carry(next);
        next.resolve(Check.ACCEPT, 0);
        Check.due("a comment of the ballot before", Check.INVALID, next.appeal(1, 0, 7));
        Check.due("a comment of the latest", 1, next.appeal(0, 0, 7));
        Check.due("is taken back, not that of the ballot before", 300, next.value(30));
        Check.due("which stays", 101, next.value(10));
        CommitteeBallots dropped = Check.accepted(10);
        dropped.open();
        Check.finish(dropped);
        Check.due("the latest is not carried", Check.INVALID, dropped.appeal(0, 0, 7));
    }

    private static void appealsNeedNoOpenBallot() {
        Sentence.of("Appeals", "no ballot is open,");
        Check.refused("one is open", Check.IMPOSSIBLE, () -> Check.withComments(1), x -> x.appeal(0, 0, 7));
        CommitteeBallots x = Check.withComments(1);
        Check.carry(x);
        Check.due("not resolved yet", Check.IMPOSSIBLE, x.appeal(0, 0, 7));
        x.resolve(Check.REJECT, 0);
        Check.due("none is open", 1, x.appeal(0, 0, 7));
    }

    private static void appealsHaveTheirDays() {
        Sentence.of("Appeals", "and today is at most the day of this resolution plus the days for appeals.");
        for (int days : new int[] {0, 1, 14, 60}) {
            Check.due("on day " + days, 1, resolvedAgo(days, days).appeal(0, 0, 7));
            Check.refused("a day later", Check.IMPOSSIBLE, () -> resolvedAgo(days + 1, days), x -> x.appeal(0, 0, 7));
        }
        CommitteeBallots x = Check.pending(10, 20);
        x.resolve(Check.ACCEPT, 0);
        x.pass(14);
        x.resolve(Check.ACCEPT, 0);
        x.pass(1);
        Check.due("too late for the first resolution", Check.IMPOSSIBLE, x.appeal(0, 0, 7));
        Check.due("not for the second", 1, x.appeal(1, 0, 7));
        x.resolve(Check.ACCEPT, 0);
        x.pass(14);
        Check.due("the day of the latest resolution counts", 1, x.appeal(1, 0, 7));
    }

    /** A comment that was resolved some days ago, with a setting of the days for appeals. */
    private static CommitteeBallots resolvedAgo(int days, int setting) {
        CommitteeBallots x = Check.accepted(10);
        x.set(3, setting);
        if (days > 0) {
            x.pass(days);
        }
        return x;
    }

    private static void appealsAreDecidedByWeights() {
        Sentence.of("Appeals", "An appeal is decided at once by weights: the sum of the weights of the members who are "
                + "not lapsed and disagree with the resolution (told as a set of members, among them the one who "
                + "appeals)");
        for (int set = 1; set < 16; set++) {
            int member = Integer.numberOfTrailingZeros(set);
            Check.due("set " + set + " of 15", set >= 8 ? 1 : 0, weighed(1, 2, 4, 8).appeal(0, member, set));
        }
        setsAreOfMembers();
        theLapsedDoNotCount();
    }

    private static void setsAreOfMembers() {
        Supplier<CommitteeBallots> four = () -> weighed(1, 2, 4, 8);
        for (int member = 0; member < 4; member++) {
            int it = member;
            Check.refused("without the one who appeals", Check.INVALID, four, x -> x.appeal(0, it, 15 - (1 << it)));
            Check.refused("nobody", Check.INVALID, four, x -> x.appeal(0, it, 0));
        }
        for (int far : new int[] {16 + 15, 32 + 15, 1 << 30 | 15, Integer.MIN_VALUE | 15, Integer.MAX_VALUE, -1}) {
            Check.refused("a bit of no member in " + far, Check.INVALID, four, x -> x.appeal(0, 0, far));
        }
    }

    private static void theLapsedDoNotCount() {
        CommitteeBallots x = Check.committee(9, 2, 1);
        x.addClause(10, 100);
        x.set(0, 1);
        x.set(4, 1);
        x.open();
        x.vote(1, Check.APPROVE);
        x.vote(2, Check.APPROVE);
        x.comment(0, 10, Check.TECHNICAL, 101);
        Check.due("carried", 2, Check.finish(x));
        x.resolve(Check.ACCEPT, 0);
        Check.due("active weight without the lapsed", 3, x.count(8));
        Check.due("nor do the lapsed add", 0, x.appeal(0, 0, 1 + 4));
        Check.due("two of three", 1, x.appeal(0, 0, 1 + 2));
    }

    /** Members of some weights, and a rejected comment. */
    private static CommitteeBallots weighed(int... weights) {
        CommitteeBallots x = Check.committee(weights);
        x.addClause(10, 100);
        x.open();
        x.comment(0, 10, Check.TECHNICAL, 101);
        Check.carry(x);
        x.resolve(Check.REJECT, 0);
        return x;
    }

    private static void appealsNeedMoreThanHalf() {
        Sentence.of("Appeals", "must be greater than half of the active weight (twice the sum greater than the active "
                + "weight), otherwise the appeal fails.");
        Check.due("2 of 4", 0, weighed(2, 2).appeal(0, 0, 1));
        Check.due("3 of 5", 1, weighed(3, 2).appeal(0, 0, 1));
        Check.due("2 of 5", 0, weighed(3, 2).appeal(0, 1, 2));
        Check.due("2 of 3", 1, weighed(2, 1).appeal(0, 0, 1));
        Check.due("1 of 3", 0, weighed(2, 1).appeal(0, 1, 2));
        Check.due("1 of 1", 1, weighed(1).appeal(0, 0, 1));
        Check.due("45 of 90", 0, weighed(9, 9, 9, 9, 9, 9, 9, 9, 9, 9).appeal(0, 0, 31));
        Check.due("54 of 90", 1, weighed(9, 9, 9, 9, 9, 9, 9, 9, 9, 9).appeal(0, 9, 63 << 4));
        CommitteeBallots failed = Check.accepted(10);
        failed.appeal(0, 0, 1);
        Check.due("one that fails leaves the comment", 2, failed.told(0, 4));
        Check.due("the value", 101, failed.value(10));
        Check.due("the edition", 2, failed.count(2));
        Check.due("and none pending", 0, failed.count(7));
    }

    private static void appealsWhileOthersArePending() {
        Sentence.of("Appeals", "Appeals are possible while other comments are pending, too.");
        CommitteeBallots x = Check.pending(10, 20, 30);
        x.resolve(Check.ACCEPT, 0);
        x.resolve(Check.ACCEPT, 0);
        Check.due("one is pending", 1, x.count(7));
        Check.due("against the second", 1, x.appeal(1, 0, 7));
        Check.due("against the first", 1, x.appeal(0, 0, 7));
        Check.due("against the pending one", Check.IMPOSSIBLE, x.appeal(2, 0, 7));
        Check.due("three are pending", 3, x.count(7));
        Check.due("in their ranks", 0, x.next());
    }

    private static void appealedCommentsArePendingAgain() {
        Sentence.of("Appeals", "An appeal that succeeds makes the comment pending again,");
        for (int decision = 0; decision <= 2; decision++) {
            CommitteeBallots x = Check.pending(10);
            x.resolve(decision, 0);
            Check.due("none is pending", 0, x.count(7));
            Check.due("succeeds", 1, x.appeal(0, 0, 7));
            Check.due("one is pending", 1, x.count(7));
            Check.due("it is next", 0, x.next());
            Check.due("pending", 1, x.told(0, 4));
            Check.due("without a day", Check.NOT_FOUND, x.told(0, 5));
            Check.due("without a value", Check.NOT_FOUND, x.told(0, 6));
            Check.due("can not be appealed against", Check.IMPOSSIBLE, x.appeal(0, 0, 7));
            Check.due("no ballot can be opened", Check.IMPOSSIBLE, x.open());
            Check.due("resolved again", 0, x.resolve(Check.ACCEPT, 0));
            Check.due("the value", 101, x.value(10));
        }
    }

    private static void appealsTakeTheChangeBack() {
        Sentence.of("Appeals", "and, if it was accepted or modified, takes its change back: the clause gets the value "
                + "that it had at the beginning of this ballot,");
        CommitteeBallots x = Check.accepted(10);
        x.open();
        x.comment(0, 10, Check.TECHNICAL, 102);
        x.comment(0, 20, Check.TECHNICAL, 202);
        x.comment(0, 30, Check.TECHNICAL, 302);
        Check.carry(x);
        x.resolve(Check.ACCEPT, 0);
        x.resolve(Check.MODIFY, 209);
        x.resolve(Check.REJECT, 0);
        x.appeal(0, 0, 7);
        Check.due("accepted: that of this ballot's beginning", 101, x.value(10));
        Check.due("another clause keeps its own", 209, x.value(20));
        x.appeal(1, 0, 7);
        Check.due("modified: that of this ballot's beginning", 200, x.value(20));
        x.appeal(2, 0, 7);
        Check.due("rejected: nothing is taken back", 300, x.value(30));
    }

    private static void appealsKeepWhatAnotherCommentGave() {
        Sentence.of("Appeals", "unless another comment of this ballot on it is accepted or modified and gave it the "
                + "value that it has (then it keeps it).");
        CommitteeBallots accepted = changedClause();
        accepted.resolve(Check.REJECT, 0);
        accepted.resolve(Check.ACCEPT, 0);
        accepted.appeal(0, 0, 7);
        Check.due("another one accepted", 101, accepted.value(10));
        accepted.appeal(2, 0, 7);
        Check.due("a rejected one gives nothing, a pending one neither", 100, accepted.value(10));
        CommitteeBallots modified = changedClause();
        modified.resolve(Check.MODIFY, 101);
        modified.appeal(0, 0, 7);
        Check.due("another one modified", 101, modified.value(10));
        CommitteeBallots before = Check.inBallot();
        before.comment(0, 10, Check.TECHNICAL, 101);
        before.comment(0, 10, Check.TECHNICAL, 102);
        before.comment(0, 20, Check.TECHNICAL, 102);
        Check.carry(before);
        before.resolve(Check.MODIFY, 100);
        before.resolve(Check.ACCEPT, 0);
        before.resolve(Check.ACCEPT, 0);
        before.appeal(0, 0, 7);
        Check.due("the other one gave the value that it has", 102, before.value(10));
        before.resolve(Check.REJECT, 0);
        before.appeal(1, 0, 7);
        Check.due("the other one gave it to another clause", 100, before.value(10));
        Check.due("which keeps it", 102, before.value(20));
    }

    private static void appealsTakeTheEditionBack() {
        Sentence.of("Appeals", "If the document had come into the next edition by this ballot, it goes back to the "
                + "edition before,");
        CommitteeBallots x = Check.accepted(10, 20);
        x.appeal(0, 0, 7);
        Check.due("back", 1, x.count(2));
        Check.due("edition 2 is gone", Check.INVALID, x.valueIn(10, 2));
        Check.due("and its changes", Check.INVALID, x.changes(2));
        x.appeal(1, 0, 7);
        Check.due("back once only", 1, x.count(2));
        CommitteeBallots rejected = Check.pending(10, 20);
        rejected.resolve(Check.ACCEPT, 0);
        rejected.resolve(Check.REJECT, 0);
        rejected.appeal(1, 0, 7);
        Check.due("also by an appeal against a rejection", 1, rejected.count(2));
        CommitteeBallots without = Check.accepted(10);
        without.open();
        without.comment(0, 20, Check.TECHNICAL, 201);
        Check.carry(without);
        without.resolve(Check.REJECT, 0);
        without.appeal(0, 0, 7);
        Check.due("not the edition of an earlier ballot", 2, without.count(2));
        Check.due("from the last edition", 12, Check.inEdition(12).count(2));
        CommitteeBallots last = Check.inEdition(12);
        last.appeal(0, 0, 1);
        Check.due("to the one before", 11, last.count(2));
    }

    private static void theEditionComesAgain() {
        Sentence.of("Appeals", "until no comment is pending any more.");
        CommitteeBallots x = Check.accepted(10, 20);
        x.appeal(0, 0, 7);
        x.appeal(1, 0, 7);
        x.resolve(Check.REJECT, 0);
        Check.due("one is pending", 1, x.count(2));
        x.resolve(Check.ACCEPT, 0);
        Check.due("the edition comes again", 2, x.count(2));
        Check.due("with one change", 1, x.changes(2));
        Check.due("of clause 20", 20, x.change(2, 0, 0));
        Check.due("clause 10 is as before", 100, x.valueIn(10, 2));
        x.appeal(1, 0, 7);
        x.resolve(Check.REJECT, 0);
        Check.due("no edition without a change", 1, x.count(2));
        CommitteeBallots last = Check.inEdition(12);
        last.appeal(0, 0, 1);
        last.resolve(Check.ACCEPT, 0);
        Check.due("the last edition comes again", 12, last.count(2));
    }
}
