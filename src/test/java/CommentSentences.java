import java.util.function.Supplier;

/** The sentences of promises 15 to 19: comments, what is told of them, resolutions and appeals. */
final class CommentSentences {
    private CommentSentences() {
    }

    static void test() {
        comment();
        commentArguments();
        commentErrors();
        told();
        toldState();
        toldDayAndValue();
        toldErrors();
        next();
        resolve();
        resolveErrors();
        resolveIsNotPossible();
        appeal();
        appealArguments();
        appealErrors();
        appealIsNotPossible();
    }

    private static void comment() {
        Sentence.of("Promise 15", "`int comment(int member, int clause, int kind, int value)`: Comments.");
        CommitteeBallots x = Check.inBallot();
        x.comment(1, 20, Check.EDITORIAL, 205);
        Check.due("comments", 1, x.count(6));
        Check.due("of the member", 1, x.member(1, 4));
        Check.due("the value stays", 200, x.value(20));
        Sentence.of("Promise 15", "Returns the number of the comment;");
        for (int comment = 1; comment < 30; comment++) {
            Check.due("number", comment, x.comment(comment % 3, 10, comment % 2, 101 + comment));
        }
        for (int comment = 1; comment < 30; comment++) {
            Check.due("its value", 101 + comment, x.told(comment, 3));
        }
    }

    private static void commentArguments() {
        Sentence.of("Promise 15", "`member`: number of the member");
        Check.takes(0, 2, Check::inBallot, (x, member) -> x.comment(member, 10, 1, 101));
        Sentence.of("Promise 15", "`clause`: the clause");
        Check.takes(10, 10, Check::inBallot, (x, clause) -> x.comment(0, clause, 1, 1));
        Check.takes(30, 30, Check::inBallot, (x, clause) -> x.comment(0, clause, 1, 1));
        Sentence.of("Promise 15", "`kind`: 0 editorial, 1 technical");
        Check.takes(0, 1, Check::inBallot, (x, kind) -> x.comment(0, 10, kind, 1));
        CommitteeBallots kinds = Check.inBallot();
        kinds.vote(0, Check.DISAPPROVE);
        kinds.comment(0, 10, 0, 1);
        Check.due("0 is editorial", 0, kinds.tally(3));
        kinds.comment(0, 10, 1, 1);
        Check.due("1 is technical", 1, kinds.tally(3));
        Sentence.of("Promise 15", "`value`: 0 to 9999: the proposed value");
        Check.takes(0, 9999, Check::inBallot, (x, value) -> x.comment(0, 10, 1, value));
        for (int value : new int[] {0, 9999}) {
            CommitteeBallots x = Check.inBallot();
            x.comment(0, 10, 1, value);
            Check.carry(x);
            x.resolve(Check.ACCEPT, 0);
            Check.due("the proposed value", value, x.value(10));
        }
    }

    private static void commentErrors() {
        Sentence.of("Promise 15", "INVALID_ARGUMENT if an argument is out of range;");
        Check.refused("all", Check.INVALID, Check::inBallot, x -> x.comment(3, 11, 2, 10000));
        Check.refused("no ballot is open", Check.INVALID, Check::ordinary, x -> x.comment(0, 11, 1, 1));
        Check.refused("30 comments", Check.INVALID, () -> Check.withComments(30), x -> x.comment(0, 10, 2, 1));
        Check.refused("the value of the clause", Check.INVALID, Check::inBallot, x -> x.comment(0, 10, -1, 100));
        Sentence.of("Promise 15", "NOT_POSSIBLE if no ballot is open, or the clause has this value;");
        Check.refused("none was opened", Check.IMPOSSIBLE, Check::ordinary, x -> x.comment(0, 10, 1, 101));
        Check.refused("it has ended", Check.IMPOSSIBLE, () -> Check.pending(10), x -> x.comment(0, 20, 1, 1));
        for (int clause : new int[] {10, 20, 30}) {
            Check.refused("this value", Check.IMPOSSIBLE, Check::inBallot, x -> x.comment(0, clause, 1, clause * 10));
            Check.due("one less", 0, Check.inBallot().comment(0, clause, 1, clause * 10 - 1));
            Check.due("one more", 0, Check.inBallot().comment(0, clause, 1, clause * 10 + 1));
        }
        CommitteeBallots second = Check.accepted(10);
        second.open();
        Check.due("the value now", Check.IMPOSSIBLE, second.comment(0, 10, 1, 101));
        Check.due("the value before", 0, second.comment(0, 10, 1, 100));
        Check.refused("this value, with 30", Check.IMPOSSIBLE, () -> Check.withComments(30),
                x -> x.comment(0, 10, 1, 100));
        Sentence.of("Promise 15", "LIMIT_REACHED if there are 30.");
        Check.refused("technical", Check.LIMIT, () -> Check.withComments(30), x -> x.comment(0, 10, 1, 102));
        Check.refused("editorial of another", Check.LIMIT, () -> Check.withComments(30), x -> x.comment(1, 20, 0, 1));
        Check.due("if there are 29", 29, Check.withComments(29).comment(0, 10, 1, 102));
        CommitteeBallots undone = Check.withComments(30);
        undone.undo();
        Check.due("if one of 30 was undone", 29, undone.comment(0, 10, 1, 102));
    }

    private static void told() {
        Sentence.of("Promise 16", "`int told(int comment, int what)`: Returns a property of a comment of the latest "
                + "ballot.");
        CommitteeBallots x = Check.accepted(10, 20);
        x.open();
        x.comment(2, 30, Check.EDITORIAL, 305);
        Check.due("the clause of the first comment", 30, x.told(0, 1));
        Check.due("no second comment in this ballot", Check.INVALID, x.told(1, 1));
        Sentence.of("Promise 16", "`comment`: number of the comment");
        Check.takes(0, 29, () -> Check.withComments(30), (thirty, comment) -> thirty.told(comment, 0));
        Check.takes(0, 0, () -> Check.withComments(1), (one, comment) -> one.told(comment, 4));
        Sentence.of("Promise 16", "`what`: 0: its member;");
        Check.due("member", 2, x.told(0, 0));
        Sentence.of("Promise 16", "1: its clause;");
        Check.due("clause", 30, x.told(0, 1));
        Sentence.of("Promise 16", "2: its kind;");
        Check.due("editorial", 0, x.told(0, 2));
        x.comment(1, 20, Check.TECHNICAL, 9999);
        Check.due("technical", 1, x.told(1, 2));
        Sentence.of("Promise 16", "3: its proposed value;");
        Check.due("value", 305, x.told(0, 3));
        Check.due("the greatest", 9999, x.told(1, 3));
        Check.carry(x);
        x.resolve(Check.MODIFY, 1);
        Check.due("also when it was modified", 9999, x.told(1, 3));
    }

    private static void toldState() {
        Sentence.of("Promise 16", "4: 0 if the ballot is open, 1 if it is pending, 2 accepted, 3 modified, "
                + "4 rejected;");
        for (int decision = 0; decision <= 2; decision++) {
            CommitteeBallots x = Check.withComments(1);
            for (int ballot = 1; ballot <= 3; ballot++) {
                Check.due("open", 0, x.told(0, 4));
                Check.carry(x);
                Check.due("pending", 1, x.told(0, 4));
                x.resolve(decision, 0);
                Check.due("resolved", 2 + decision, x.told(0, 4));
                x.appeal(0, 0, 1);
                Check.due("an appeal failed", 2 + decision, x.told(0, 4));
                x.appeal(0, 0, 7);
                Check.due("pending again", 1, x.told(0, 4));
                x.resolve(decision, 0);
                x.open();
                x.comment(0, 10, Check.TECHNICAL, x.value(10) + 1);
            }
        }
    }

    private static void toldDayAndValue() {
        Sentence.of("Promise 16", "5: the day of its resolution;");
        CommitteeBallots x = Check.inBallot();
        Check.carry(x);
        x.open();
        x.comment(0, 10, Check.TECHNICAL, 101);
        x.comment(0, 20, Check.TECHNICAL, 201);
        Check.carry(x);
        x.resolve(Check.ACCEPT, 0);
        Check.due("on the day of the end", 60, x.told(0, 5));
        x.pass(365);
        Check.due("a year later", 60, x.told(0, 5));
        x.resolve(Check.REJECT, 0);
        Check.due("of the other", 425, x.told(1, 5));
        x.pass(14);
        x.appeal(1, 0, 7);
        x.resolve(Check.ACCEPT, 0);
        Check.due("of its latest resolution", 439, x.told(1, 5));
        Sentence.of("Promise 16", "6: the value that its clause got by it");
        Check.due("accepted", 101, x.told(0, 6));
        Check.due("accepted after an appeal", 201, x.told(1, 6));
        for (int value : new int[] {0, 100, 9999}) {
            CommitteeBallots modified = Check.pending(10);
            modified.resolve(Check.MODIFY, value);
            Check.due("modified", value, modified.told(0, 6));
        }
    }

    private static void toldErrors() {
        Sentence.of("Promise 16", "Returns the property; INVALID_ARGUMENT if an argument is out of range;");
        Check.takes(0, 6, () -> Check.withComments(1), (x, what) -> x.told(0, what));
        Check.refused("no ballot", Check.INVALID, Check::ordinary, x -> x.told(0, 0));
        Check.refused("no comments", Check.INVALID, Check::inBallot, x -> x.told(0, 5));
        Check.refused("both", Check.INVALID, Check::inBallot, x -> x.told(-1, 7));
        CommitteeBallots dropped = Check.withComments(30);
        Check.finish(dropped);
        for (int comment = 0; comment < 30; comment++) {
            Check.due("a comment that was dropped", Check.INVALID, dropped.told(comment, comment % 7));
        }
        Sentence.of("Promise 16", "NOT_FOUND for 5 if it is not resolved, for 6 if it is neither accepted nor "
                + "modified.");
        Supplier<CommitteeBallots> rejected = () -> {
            CommitteeBallots x = Check.pending(10);
            x.resolve(Check.REJECT, 0);
            return x;
        };
        Supplier<CommitteeBallots> appealed = () -> {
            CommitteeBallots x = Check.accepted(10);
            x.appeal(0, 0, 7);
            return x;
        };
        for (int what = 5; what <= 6; what++) {
            int property = what;
            Check.refused("open", Check.NOT_FOUND, () -> Check.withComments(1), x -> x.told(0, property));
            Check.refused("pending", Check.NOT_FOUND, () -> Check.pending(10), x -> x.told(0, property));
            Check.refused("pending again", Check.NOT_FOUND, appealed, x -> x.told(0, property));
        }
        Check.refused("rejected", Check.NOT_FOUND, rejected, x -> x.told(0, 6));
        Check.due("but the day of a rejection", 30, rejected.get().told(0, 5));
    }

    private static void next() {
        Sentence.of("Promise 17", "`int next()`: Returns the pending comment that is resolved next;");
        CommitteeBallots x = Check.pending(30, 20, 10);
        for (int comment = 2; comment >= 0; comment--) {
            Check.due("the next", comment, x.next());
            Check.due("it is asked again", comment, x.next());
            x.resolve(Check.REJECT, 0);
            Check.due("it was resolved", 4, x.told(comment, 4));
        }
        x.appeal(1, 0, 7);
        Check.due("one by an appeal", 1, x.next());
        x.appeal(2, 0, 7);
        Check.due("one of a higher rank", 2, x.next());
        Sentence.of("Promise 17", "NOT_FOUND if none is pending.");
        Check.refused("a new object", Check.NOT_FOUND, CommitteeBallots::new, CommitteeBallots::next);
        Check.refused("open", Check.NOT_FOUND, () -> Check.withComments(3), CommitteeBallots::next);
        Check.refused("all are resolved", Check.NOT_FOUND, () -> Check.accepted(10, 20), CommitteeBallots::next);
        CommitteeBallots dropped = Check.withComments(3);
        Check.finish(dropped);
        Check.due("not carried", Check.NOT_FOUND, dropped.next());
    }

    private static void resolve() {
        Sentence.of("Promise 18", "`int resolve(int decision, int value)`: Resolves the pending comment that is next.");
        CommitteeBallots x = Check.pending(20, 10);
        x.resolve(Check.ACCEPT, 0);
        Check.due("the one of the lower clause", 2, x.told(1, 4));
        Check.due("not the other", 1, x.told(0, 4));
        Sentence.of("Promise 18", "`decision`: 0 accept, 1 modify, 2 reject");
        Check.takes(0, 2, () -> Check.pending(10), (pending, decision) -> pending.resolve(decision, 0));
        int[] values = {101, 0, 100};
        for (int decision = 0; decision <= 2; decision++) {
            CommitteeBallots one = Check.pending(10);
            one.resolve(decision, 0);
            Check.due("the value", values[decision], one.value(10));
            Check.due("the resolution", 2 + decision, one.told(0, 4));
        }
        Sentence.of("Promise 18", "`value`: 0 to 9999: for 1 the value, otherwise 0");
        Check.takes(0, 9999, () -> Check.pending(10), (pending, value) -> pending.resolve(Check.MODIFY, value));
        Check.takes(0, 0, () -> Check.pending(10), (pending, value) -> pending.resolve(Check.ACCEPT, value));
        Check.takes(0, 0, () -> Check.pending(10), (pending, value) -> pending.resolve(Check.REJECT, value));
        Sentence.of("Promise 18", "Returns the number of pending comments that remain;");
        CommitteeBallots thirty = Check.withComments(30);
        Check.carry(thirty);
        for (int left = 29; left >= 0; left--) {
            Check.due("left", left, thirty.resolve(left % 3, left % 3 == Check.MODIFY ? 101 : 0));
        }
        thirty.appeal(7, 0, 7);
        thirty.appeal(8, 0, 7);
        Check.due("left after appeals", 1, thirty.resolve(Check.REJECT, 0));
        Check.due("none", 0, thirty.resolve(Check.REJECT, 0));
    }

    private static void resolveErrors() {
        Sentence.of("Promise 18", "INVALID_ARGUMENT if an argument is out of range, or value is not 0 for 0 or 2;");
        Supplier<CommitteeBallots> pending = () -> Check.pending(10);
        for (int value : new int[] {1, 100, 101, 9999}) {
            Check.refused("accept with " + value, Check.INVALID, pending, x -> x.resolve(Check.ACCEPT, value));
            Check.refused("reject with " + value, Check.INVALID, pending, x -> x.resolve(Check.REJECT, value));
            Check.refused("none is pending", Check.INVALID, Check::ordinary, x -> x.resolve(Check.ACCEPT, value));
        }
        Check.refused("decision and value", Check.INVALID, pending, x -> x.resolve(3, 10000));
        Check.refused("none is pending", Check.INVALID, Check::ordinary, x -> x.resolve(3, 0));
        Check.refused("nor the value", Check.INVALID, Check::ordinary, x -> x.resolve(Check.MODIFY, 10000));
    }

    private static void resolveIsNotPossible() {
        Sentence.of("Promise 18", "NOT_POSSIBLE if none is pending,");
        for (int decision = 0; decision <= 2; decision++) {
            int it = decision;
            Check.refused("no ballot", Check.IMPOSSIBLE, CommitteeBallots::new, x -> x.resolve(it, 0));
            Check.refused("it is open", Check.IMPOSSIBLE, () -> Check.withComments(3), x -> x.resolve(it, 0));
            Check.refused("all are resolved", Check.IMPOSSIBLE, () -> Check.accepted(10), x -> x.resolve(it, 0));
        }
        CommitteeBallots dropped = Check.withComments(3);
        Check.finish(dropped);
        Check.due("not carried", Check.IMPOSSIBLE, dropped.resolve(Check.REJECT, 0));
        Sentence.of("Promise 18", "or the clause can not get this value.");
        Supplier<CommitteeBallots> changed = () -> {
            CommitteeBallots x = Check.inBallot();
            x.comment(0, 10, Check.TECHNICAL, 101);
            x.comment(0, 10, Check.TECHNICAL, 102);
            Check.carry(x);
            x.resolve(Check.ACCEPT, 0);
            return x;
        };
        Check.refused("accept", Check.IMPOSSIBLE, changed, x -> x.resolve(Check.ACCEPT, 0));
        for (int value : new int[] {0, 100, 102, 9999}) {
            Check.refused("modify to " + value, Check.IMPOSSIBLE, changed, x -> x.resolve(Check.MODIFY, value));
        }
        Check.due("modify to the value that it has", 0, changed.get().resolve(Check.MODIFY, 101));
        Check.due("reject", 0, changed.get().resolve(Check.REJECT, 0));
    }

    private static void appeal() {
        Sentence.of("Promise 19", "`int appeal(int comment, int member, int set)`: Appeals against a resolution.");
        CommitteeBallots x = Check.accepted(10, 20);
        x.appeal(1, 0, 7);
        Check.due("its comment is pending", 1, x.told(1, 4));
        Check.due("its value is taken back", 200, x.value(20));
        Check.due("the other stays", 2, x.told(0, 4));
        Sentence.of("Promise 19", "Returns 1 if the appeal succeeds, 0 if it fails;");
        for (int set = 1; set < 8; set++) {
            int member = Integer.numberOfTrailingZeros(set);
            int succeeds = Integer.bitCount(set) >= 2 ? 1 : 0;
            CommitteeBallots one = Check.accepted(10);
            Check.due("set " + set, succeeds, one.appeal(0, member, set));
            Check.due("the value", 101 - succeeds, one.value(10));
        }
    }

    private static void appealArguments() {
        Sentence.of("Promise 19", "`comment`: number of the comment");
        Check.takes(0, 1, () -> Check.accepted(10, 20), (x, comment) -> x.appeal(comment, 0, 7));
        Check.takes(0, 29, () -> Check.withComments(30), (x, comment) -> x.appeal(comment, 0, 7));
        Sentence.of("Promise 19", "`member`: number of the member who appeals");
        Check.takes(0, 2, () -> Check.accepted(10), (x, member) -> x.appeal(0, member, 7));
        Supplier<CommitteeBallots> ten = () -> {
            CommitteeBallots x = Check.tenMembers();
            x.open();
            x.comment(0, 10, Check.TECHNICAL, 101);
            Check.carry(x);
            x.resolve(Check.ACCEPT, 0);
            return x;
        };
        Check.takes(0, 9, ten, (x, member) -> x.appeal(0, member, 1023));
        Sentence.of("Promise 19", "`set`: the members who disagree, as a bit mask");
        Check.takes(512, 1023, ten, (x, set) -> x.appeal(0, 9, set));
        for (int member = 0; member < 10; member++) {
            Check.due("one of ten", 0, ten.get().appeal(0, member, 1 << member));
            Check.due("all but one", 1, ten.get().appeal(0, (member + 1) % 10, 1023 - (1 << member)));
        }
        Check.due("the lower five of ten", 0, ten.get().appeal(0, 0, 31));
        Check.due("the lower six of ten", 1, ten.get().appeal(0, 0, 63));
        Check.due("the upper six of ten", 1, ten.get().appeal(0, 9, 1023 - 15));
    }

    private static void appealErrors() {
        Sentence.of("Promise 19", "INVALID_ARGUMENT if an argument is out of range, or set has a bit of no member "
                + "or not that of member;");
        Supplier<CommitteeBallots> accepted = () -> Check.accepted(10);
        Check.refused("all", Check.INVALID, accepted, x -> x.appeal(1, 3, 8));
        for (int bit = 3; bit < 32; bit++) {
            int set = 7 | 1 << bit;
            Check.refused("a bit of no member: " + bit, Check.INVALID, accepted, x -> x.appeal(0, 0, set));
        }
        Check.refused("the bit of no member alone", Check.INVALID, accepted, x -> x.appeal(0, 3, 8));
        for (int member = 0; member < 3; member++) {
            int it = member;
            Check.refused("nobody", Check.INVALID, accepted, x -> x.appeal(0, it, 0));
            Check.refused("all but " + it, Check.INVALID, accepted, x -> x.appeal(0, it, 7 - (1 << it)));
        }
        Check.refused("a ballot is open", Check.INVALID, () -> Check.withComments(1), x -> x.appeal(0, 0, 6));
        Check.refused("not resolved", Check.INVALID, () -> Check.pending(10), x -> x.appeal(0, 0, 8 + 1));
        Check.refused("no comment", Check.INVALID, Check::ordinary, x -> x.appeal(0, 0, 7));
    }

    private static void appealIsNotPossible() {
        Sentence.of("Promise 19", "NOT_POSSIBLE if a ballot is open,");
        Check.refused("with this comment", Check.IMPOSSIBLE, () -> Check.withComments(1), x -> x.appeal(0, 0, 7));
        Sentence.of("Promise 19", "the comment is not resolved,");
        Check.refused("pending", Check.IMPOSSIBLE, () -> Check.pending(10, 20), x -> x.appeal(1, 0, 7));
        Supplier<CommitteeBallots> appealed = () -> {
            CommitteeBallots x = Check.accepted(10, 20);
            x.appeal(1, 0, 7);
            return x;
        };
        Check.refused("pending again", Check.IMPOSSIBLE, appealed, x -> x.appeal(1, 0, 7));
        Check.due("the other one is", 1, appealed.get().appeal(0, 0, 7));
        Sentence.of("Promise 19", "or it is too late.");
        for (int days : new int[] {0, 14, 60}) {
            Supplier<CommitteeBallots> late = () -> {
                CommitteeBallots x = Check.accepted(10);
                x.set(3, days);
                x.pass(days + 1);
                return x;
            };
            Check.refused(days + 1 + " days", Check.IMPOSSIBLE, late, x -> x.appeal(0, 0, 7));
            CommitteeBallots undone = late.get();
            undone.undo();
            Check.due("on the day itself", 1, undone.appeal(0, 0, 7));
        }
        CommitteeBallots x = Check.accepted(10);
        x.pass(14);
        Check.due("fails on the last day", 0, x.appeal(0, 0, 1));
        x.pass(1);
        Check.due("an appeal that failed gives no more days", Check.IMPOSSIBLE, x.appeal(0, 0, 7));
    }
}
