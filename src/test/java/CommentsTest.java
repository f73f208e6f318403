/** Promises 15 to 19: comments, what is told of them, their order, resolutions and appeals. */
public final class CommentsTest {
    public static void main(String[] args) {
        promise15Comment();
        promise15Limit();
        promise16Told();
        promise17Next();
        promise17Ranks();
        promise18Resolve();
        promise18OneValueForAClause();
        promise18EditionComesBehindTheLast();
        promise18WrongInputs();
        promise19Appeal();
        promise19Weights();
        promise19LapsedMembers();
        promise19Days();
        promise19TakesAChangeBack();
        promise19ValueThatAnotherCommentGave();
        promise19ValueOfTheBeginning();
        promise19AgainstARejection();
        promise19EditionGoesBack();
        promise19WhileOthersArePending();
        promise19LatestBallotAlone();
        Check.end("CommentsTest");
    }

    private static void promise15Comment() {
        CommitteeBallots x = Check.ordinary();
        Check.due("no ballot is open", Check.IMPOSSIBLE, x.comment(0, 10, 1, 1));
        Check.due("range before possibility", Check.INVALID, x.comment(0, 11, 1, 1));
        x.open();
        Check.due("first", 0, x.comment(0, 10, Check.TECHNICAL, 0));
        Check.due("second", 1, x.comment(0, 10, Check.EDITORIAL, 9999));
        Check.due("the same once more", 2, x.comment(0, 10, Check.EDITORIAL, 9999));
        Check.due("the value of the clause", Check.IMPOSSIBLE, x.comment(0, 10, 1, 100));
        Check.due("the value of another clause", 3, x.comment(0, 10, 1, 200));
        Check.due("kind -1", Check.INVALID, x.comment(0, 10, -1, 1));
        Check.due("kind 2", Check.INVALID, x.comment(0, 10, 2, 1));
        Check.due("value -1", Check.INVALID, x.comment(0, 10, 1, -1));
        Check.due("value 10000", Check.INVALID, x.comment(0, 10, 1, 10000));
        Check.due("member -1", Check.INVALID, x.comment(-1, 10, 1, 1));
        Check.due("member 3", Check.INVALID, x.comment(3, 10, 1, 1));
        Check.due("no such clause", Check.INVALID, x.comment(0, 11, 1, 1));
        for (int far : Check.far()) {
            Check.due("member far out of range", Check.INVALID, x.comment(far, 10, 1, 1));
            Check.due("clause far out of range", Check.INVALID, x.comment(0, far, 1, 1));
            Check.due("kind far out of range", Check.INVALID, x.comment(0, 10, far, 1));
            Check.due("value far out of range", Check.INVALID, x.comment(0, 10, 1, far));
        }
        Check.due("four comments", 4, x.count(6));
        Check.carry(x);
        Check.due("the ballot has ended", Check.IMPOSSIBLE, x.comment(0, 10, 1, 1));
    }

    private static void promise15Limit() {
        CommitteeBallots x = Check.inBallot();
        for (int comment = 0; comment < 30; comment++) {
            Check.due("comment " + comment, comment, x.comment(comment % 3, 10, comment % 2, comment));
        }
        Check.due("a comment beyond 30", Check.LIMIT, x.comment(0, 10, 1, 1));
        Check.due("possibility before limit", Check.IMPOSSIBLE, x.comment(0, 10, 1, 100));
        Check.due("range before limit", Check.INVALID, x.comment(0, 10, 2, 1));
        for (int comment = 0; comment < 30; comment++) {
            Check.due("its value", comment, x.told(comment, 3));
        }
        Check.finish(x);
        x.open();
        Check.due("numbered from 0 in each ballot", 0, x.comment(0, 10, 1, 1));
    }

    private static void promise16Told() {
        CommitteeBallots x = Check.inBallot();
        x.comment(2, 20, Check.TECHNICAL, 201);
        x.comment(1, 30, Check.EDITORIAL, 301);
        x.comment(0, 30, Check.EDITORIAL, 302);
        tells(x, 0, 2, 20, 1, 201, 0, Check.NOT_FOUND, Check.NOT_FOUND);
        tells(x, 1, 1, 30, 0, 301, 0, Check.NOT_FOUND, Check.NOT_FOUND);
        Check.due("property -1", Check.INVALID, x.told(0, -1));
        Check.due("property 7", Check.INVALID, x.told(0, 7));
        for (int what = 0; what < 7; what++) {
            Check.due("comment -1", Check.INVALID, x.told(-1, what));
            Check.due("comment 3 of three", Check.INVALID, x.told(3, what));
        }
        for (int far : Check.far()) {
            Check.due("comment far out of range", Check.INVALID, x.told(far, 0));
            Check.due("property far out of range", Check.INVALID, x.told(0, far));
        }
        Check.carry(x);
        tells(x, 0, 2, 20, 1, 201, 1, Check.NOT_FOUND, Check.NOT_FOUND);
        x.resolve(Check.ACCEPT, 0);
        tells(x, 0, 2, 20, 1, 201, 2, 30, 201);
        x.pass(5);
        x.resolve(Check.MODIFY, 305);
        tells(x, 1, 1, 30, 0, 301, 3, 35, 305);
        x.resolve(Check.REJECT, 0);
        tells(x, 2, 0, 30, 0, 302, 4, 35, Check.NOT_FOUND);
        x.appeal(0, 0, 7);
        tells(x, 0, 2, 20, 1, 201, 1, Check.NOT_FOUND, Check.NOT_FOUND);
        x.resolve(Check.ACCEPT, 0);
        tells(x, 0, 2, 20, 1, 201, 2, 35, 201);
        x.open();
        Check.due("a new ballot has none", Check.INVALID, x.told(0, 0));
    }

    private static void tells(CommitteeBallots x, int comment, int... due) {
        for (int what = 0; what < due.length; what++) {
            Check.due("comment " + comment + " tells " + what, due[what], x.told(comment, what));
        }
    }

    private static void promise17Next() {
        CommitteeBallots x = Check.inBallot();
        Check.due("no comment", Check.NOT_FOUND, x.next());
        x.comment(0, 10, 1, 1);
        Check.due("none is pending while the ballot is open", Check.NOT_FOUND, x.next());
        Check.carry(x);
        Check.due("the only one", 0, x.next());
        x.resolve(Check.REJECT, 0);
        Check.due("all are resolved", Check.NOT_FOUND, x.next());
        x.appeal(0, 0, 7);
        Check.due("pending again", 0, x.next());
        x.resolve(Check.REJECT, 0);
        x.open();
        x.comment(0, 10, 1, 1);
        Check.finish(x);
        Check.due("none of a ballot not carried", Check.NOT_FOUND, x.next());
    }

    private static void promise17Ranks() {
        CommitteeBallots x = Check.committee(2, 5, 2, 9);
        x.addClause(20, 0);
        x.addClause(10, 0);
        x.open();
        x.comment(3, 10, Check.EDITORIAL, 1);
        x.comment(0, 20, Check.TECHNICAL, 1);
        x.comment(0, 10, Check.EDITORIAL, 1);
        x.comment(2, 10, Check.TECHNICAL, 1);
        x.comment(0, 10, Check.TECHNICAL, 1);
        x.comment(1, 10, Check.TECHNICAL, 1);
        x.comment(3, 20, Check.TECHNICAL, 1);
        x.comment(2, 10, Check.TECHNICAL, 2);
        x.comment(3, 20, Check.EDITORIAL, 1);
        Check.carry(x);
        int[] order = {5, 3, 4, 7, 6, 1, 0, 2, 8};
        for (int rank = 0; rank < order.length; rank++) {
            Check.due("rank " + rank, order[rank], x.next());
            Check.due("remaining", order.length - 1 - rank, x.resolve(Check.REJECT, 0));
        }
    }

    private static void promise18Resolve() {
        CommitteeBallots x = Check.inBallot();
        Check.due("none is pending", Check.IMPOSSIBLE, x.resolve(Check.ACCEPT, 0));
        x.comment(0, 10, Check.TECHNICAL, 101);
        x.comment(1, 20, Check.TECHNICAL, 201);
        x.comment(2, 30, Check.TECHNICAL, 301);
        Check.due("nor while the ballot is open", Check.IMPOSSIBLE, x.resolve(Check.ACCEPT, 0));
        Check.carry(x);
        Check.due("accept", 2, x.resolve(Check.ACCEPT, 0));
        Check.due("the proposed value", 101, x.value(10));
        Check.due("modify", 1, x.resolve(Check.MODIFY, 205));
        Check.due("the told value", 205, x.value(20));
        Check.due("reject", 0, x.resolve(Check.REJECT, 0));
        Check.due("the value as before", 300, x.value(30));
        Check.due("none is pending any more", Check.IMPOSSIBLE, x.resolve(Check.REJECT, 0));
    }

    private static void promise18OneValueForAClause() {
        CommitteeBallots x = Check.inBallot();
        x.comment(0, 10, Check.TECHNICAL, 101);
        x.comment(0, 10, Check.TECHNICAL, 102);
        x.comment(0, 10, Check.TECHNICAL, 103);
        x.comment(0, 10, Check.TECHNICAL, 104);
        Check.carry(x);
        Check.due("to the value of the beginning", 3, x.resolve(Check.MODIFY, 100));
        Check.due("is modified", 3, x.told(0, 4));
        Check.due("and gave that value", 100, x.told(0, 6));
        Check.due("any value can follow", 2, x.resolve(Check.ACCEPT, 0));
        Check.due("another proposed value", Check.IMPOSSIBLE, x.resolve(Check.ACCEPT, 0));
        Check.due("another told value", Check.IMPOSSIBLE, x.resolve(Check.MODIFY, 103));
        Check.due("the value of the beginning", Check.IMPOSSIBLE, x.resolve(Check.MODIFY, 100));
        Check.due("the same comment is next", 2, x.next());
        Check.due("the same value", 1, x.resolve(Check.MODIFY, 102));
        Check.due("a rejection", 0, x.resolve(Check.REJECT, 0));
        Check.due("the value", 102, x.value(10));
    }

    private static void promise18EditionComesBehindTheLast() {
        CommitteeBallots x = Check.inBallot();
        x.comment(0, 10, Check.TECHNICAL, 101);
        x.comment(0, 20, Check.TECHNICAL, 201);
        Check.carry(x);
        x.resolve(Check.ACCEPT, 0);
        Check.due("one is pending yet", 1, x.count(2));
        x.resolve(Check.REJECT, 0);
        Check.due("the next edition", 2, x.count(2));
        x.open();
        x.comment(0, 10, Check.TECHNICAL, 102);
        x.comment(0, 20, Check.TECHNICAL, 202);
        Check.carry(x);
        x.resolve(Check.REJECT, 0);
        x.resolve(Check.MODIFY, 200);
        Check.due("no edition without another value", 2, x.count(2));
    }

    private static void promise18WrongInputs() {
        CommitteeBallots x = Check.inBallot();
        x.comment(0, 10, Check.TECHNICAL, 101);
        Check.due("range before possibility", Check.INVALID, x.resolve(3, 0));
        Check.due("range of value before possibility", Check.INVALID, x.resolve(Check.ACCEPT, 1));
        Check.carry(x);
        Check.due("decision -1", Check.INVALID, x.resolve(-1, 0));
        Check.due("decision 3", Check.INVALID, x.resolve(3, 0));
        Check.due("value -1", Check.INVALID, x.resolve(Check.MODIFY, -1));
        Check.due("value 10000", Check.INVALID, x.resolve(Check.MODIFY, 10000));
        Check.due("accept with a value", Check.INVALID, x.resolve(Check.ACCEPT, 101));
        Check.due("reject with a value", Check.INVALID, x.resolve(Check.REJECT, 1));
        for (int far : Check.far()) {
            Check.due("decision far out of range", Check.INVALID, x.resolve(far, 0));
            for (int decision = 0; decision < 3; decision++) {
                Check.due("value far out of range", Check.INVALID, x.resolve(decision, far));
            }
        }
        Check.due("modify to 9999", 0, x.resolve(Check.MODIFY, 9999));
        Check.due("value", 9999, x.value(10));
    }

    private static void promise19Appeal() {
        CommitteeBallots x = Check.inBallot();
        x.comment(0, 10, Check.TECHNICAL, 101);
        Check.due("a ballot is open", Check.IMPOSSIBLE, x.appeal(0, 0, 7));
        Check.due("range before possibility", Check.INVALID, x.appeal(1, 0, 7));
        Check.carry(x);
        Check.due("not resolved", Check.IMPOSSIBLE, x.appeal(0, 0, 7));
        x.resolve(Check.ACCEPT, 0);
        Check.due("comment -1", Check.INVALID, x.appeal(-1, 0, 7));
        Check.due("comment 1 of one", Check.INVALID, x.appeal(1, 0, 7));
        Check.due("member -1", Check.INVALID, x.appeal(0, -1, 7));
        Check.due("member 3 of three", Check.INVALID, x.appeal(0, 3, 7));
        Check.due("a bit of no member", Check.INVALID, x.appeal(0, 0, 9));
        Check.due("all bits", Check.INVALID, x.appeal(0, 0, -1));
        Check.due("without the one who appeals", Check.INVALID, x.appeal(0, 0, 6));
        Check.due("nobody", Check.INVALID, x.appeal(0, 0, 0));
        for (int far : Check.far()) {
            Check.due("comment far out of range", Check.INVALID, x.appeal(far, 0, 7));
            Check.due("member far out of range", Check.INVALID, x.appeal(0, far, 7));
            Check.due("set far out of range", Check.INVALID, x.appeal(0, 0, far));
        }
        Check.due("one of three fails", 0, x.appeal(0, 2, 4));
        Check.due("the resolution stands", 2, x.told(0, 4));
        Check.due("two of three succeed", 1, x.appeal(0, 1, 3));
        Check.due("pending again", 1, x.told(0, 4));
        Check.due("and can not be appealed against", Check.IMPOSSIBLE, x.appeal(0, 1, 3));
    }

    private static void promise19Weights() {
        CommitteeBallots x = Check.committee(3, 1, 4, 2);
        x.addClause(10, 100);
        x.open();
        x.comment(0, 10, Check.TECHNICAL, 101);
        Check.carry(x);
        x.resolve(Check.REJECT, 0);
        int states = x.count(9);
        Check.due("exactly half fails", 0, x.appeal(0, 0, 1 + 8));
        x.undo();
        Check.due("an appeal that fails is a change", states - 1, x.count(9));
        Check.due("more than half succeeds", 1, x.appeal(0, 3, 4 + 8));
        CommitteeBallots all = Check.committee(1, 1, 1, 1, 1, 1, 1, 1, 1, 1);
        all.addClause(10, 100);
        all.open();
        all.comment(0, 10, Check.TECHNICAL, 101);
        Check.carry(all);
        all.resolve(Check.REJECT, 0);
        Check.due("a bit beyond ten members", Check.INVALID, all.appeal(0, 9, 1024 + 512));
        Check.due("five of ten", 0, all.appeal(0, 9, 992));
        Check.due("all ten", 1, all.appeal(0, 9, 1023));
    }

    private static void promise19LapsedMembers() {
        CommitteeBallots x = Check.committee(9, 2, 1);
        x.addClause(10, 100);
        x.set(4, 1);
        x.open();
        x.vote(1, Check.APPROVE);
        x.vote(2, Check.APPROVE);
        Check.finish(x);
        x.open();
        x.comment(0, 10, Check.TECHNICAL, 101);
        x.vote(1, Check.APPROVE);
        x.vote(2, Check.APPROVE);
        Check.due("carried without the lapsed", 2, Check.finish(x));
        x.resolve(Check.ACCEPT, 0);
        Check.due("the lapsed can appeal, but do not count", 0, x.appeal(0, 0, 1 + 4));
        Check.due("most of the others do", 1, x.appeal(0, 0, 1 + 2));
        x.resolve(Check.ACCEPT, 0);
        x.set(4, 3);
        Check.due("not lapsed by another setting", 1, x.appeal(0, 0, 1));
    }

    private static void promise19Days() {
        CommitteeBallots x = Check.inBallot();
        x.comment(0, 10, Check.TECHNICAL, 101);
        Check.carry(x);
        x.pass(20);
        x.resolve(Check.ACCEPT, 0);
        x.pass(14);
        Check.due("on the last day", 1, x.appeal(0, 0, 7));
        x.resolve(Check.ACCEPT, 0);
        x.pass(15);
        Check.due("a day too late", Check.IMPOSSIBLE, x.appeal(0, 0, 7));
        x.set(3, 15);
        Check.due("one day more was set", 0, x.appeal(0, 0, 1));
        x.set(3, 0);
        Check.due("no day was set", Check.IMPOSSIBLE, x.appeal(0, 0, 1));
        x.set(3, 60);
        x.appeal(0, 0, 7);
        x.resolve(Check.ACCEPT, 0);
        x.set(3, 0);
        Check.due("today it is still possible", 0, x.appeal(0, 0, 1));
        x.pass(1);
        Check.due("tomorrow it is not", Check.IMPOSSIBLE, x.appeal(0, 0, 1));
    }

    private static void promise19TakesAChangeBack() {
        CommitteeBallots x = Check.inBallot();
        x.comment(0, 10, Check.TECHNICAL, 101);
        x.comment(0, 20, Check.TECHNICAL, 201);
        Check.carry(x);
        x.resolve(Check.ACCEPT, 0);
        x.resolve(Check.MODIFY, 202);
        x.appeal(0, 0, 1);
        Check.due("a failing appeal takes nothing back", 101, x.value(10));
        x.appeal(0, 0, 7);
        Check.due("accepted: the value of the beginning", 100, x.value(10));
        Check.due("the other clause keeps its own", 202, x.value(20));
        x.appeal(1, 0, 7);
        Check.due("modified: the value of the beginning", 200, x.value(20));
        Check.due("any value can follow", 1, x.resolve(Check.MODIFY, 109));
        Check.due("for both", 0, x.resolve(Check.MODIFY, 209));
        Check.due("edition 2", 2, x.count(2));
        x.open();
        x.comment(0, 10, Check.TECHNICAL, 101);
        Check.carry(x);
        x.resolve(Check.ACCEPT, 0);
        x.appeal(0, 0, 7);
        Check.due("the beginning of this ballot, not of the first", 109, x.value(10));
    }

    private static void promise19ValueThatAnotherCommentGave() {
        CommitteeBallots x = Check.inBallot();
        x.comment(0, 10, Check.TECHNICAL, 101);
        x.comment(0, 10, Check.TECHNICAL, 102);
        x.comment(0, 20, Check.TECHNICAL, 101);
        Check.carry(x);
        x.resolve(Check.ACCEPT, 0);
        x.resolve(Check.MODIFY, 101);
        x.resolve(Check.ACCEPT, 0);
        x.appeal(0, 0, 7);
        Check.due("another comment gave it, too", 101, x.value(10));
        Check.due("so it can get no other", Check.IMPOSSIBLE, x.resolve(Check.MODIFY, 102));
        x.appeal(1, 0, 7);
        Check.due("no comment stands, but one on another clause", 100, x.value(10));
        Check.due("then it can get any", 1, x.resolve(Check.MODIFY, 103));
        x.resolve(Check.REJECT, 0);
        x.appeal(0, 0, 7);
        Check.due("a rejected comment gives nothing", 100, x.value(10));
    }

    private static void promise19ValueOfTheBeginning() {
        CommitteeBallots x = Check.inBallot();
        x.comment(0, 10, Check.TECHNICAL, 101);
        x.comment(0, 10, Check.TECHNICAL, 102);
        Check.carry(x);
        x.resolve(Check.MODIFY, 100);
        x.resolve(Check.ACCEPT, 0);
        x.appeal(0, 0, 7);
        Check.due("the value that the other gave", 102, x.value(10));
        x.resolve(Check.REJECT, 0);
        x.undo();
        x.undo();
        x.appeal(1, 0, 7);
        Check.due("a comment that gave the value of the beginning", 100, x.value(10));
    }

    private static void promise19AgainstARejection() {
        CommitteeBallots x = Check.inBallot();
        x.comment(0, 10, Check.TECHNICAL, 101);
        x.comment(0, 10, Check.TECHNICAL, 102);
        Check.carry(x);
        x.resolve(Check.REJECT, 0);
        x.resolve(Check.ACCEPT, 0);
        Check.due("edition 2", 2, x.count(2));
        Check.due("against the rejection", 1, x.appeal(0, 0, 7));
        Check.due("takes no value back", 102, x.value(10));
        Check.due("but the edition", 1, x.count(2));
        Check.due("the other value stands", Check.IMPOSSIBLE, x.resolve(Check.ACCEPT, 0));
        x.resolve(Check.REJECT, 0);
        Check.due("edition 2 again", 2, x.count(2));
    }

    private static void promise19EditionGoesBack() {
        CommitteeBallots x = Check.inBallot();
        x.comment(0, 10, Check.TECHNICAL, 101);
        x.comment(0, 20, Check.TECHNICAL, 201);
        Check.carry(x);
        x.resolve(Check.ACCEPT, 0);
        x.resolve(Check.ACCEPT, 0);
        Check.due("edition 2", 2, x.count(2));
        x.appeal(0, 0, 7);
        Check.due("back once", 1, x.count(2));
        x.appeal(1, 0, 7);
        Check.due("not twice", 1, x.count(2));
        x.resolve(Check.REJECT, 0);
        Check.due("one is pending yet", 1, x.count(2));
        x.resolve(Check.REJECT, 0);
        Check.due("without a change no edition", 1, x.count(2));
        x.open();
        x.comment(0, 10, Check.TECHNICAL, 101);
        Check.carry(x);
        x.resolve(Check.ACCEPT, 0);
        x.open();
        x.comment(0, 10, Check.TECHNICAL, 102);
        Check.carry(x);
        x.resolve(Check.REJECT, 0);
        Check.due("the edition of an earlier ballot", 2, x.count(2));
        x.appeal(0, 0, 7);
        Check.due("stays", 2, x.count(2));
    }

    private static void promise19WhileOthersArePending() {
        CommitteeBallots x = Check.inBallot();
        x.comment(0, 20, Check.TECHNICAL, 201);
        x.comment(0, 10, Check.TECHNICAL, 101);
        Check.carry(x);
        x.resolve(Check.ACCEPT, 0);
        Check.due("the other is pending", 0, x.next());
        Check.due("an appeal is possible", 1, x.appeal(1, 0, 7));
        Check.due("in its rank again", 1, x.next());
        Check.due("both are pending", 2, x.count(7));
    }

    private static void promise19LatestBallotAlone() {
        CommitteeBallots x = Check.inBallot();
        x.comment(0, 10, Check.TECHNICAL, 101);
        Check.carry(x);
        x.resolve(Check.ACCEPT, 0);
        x.open();
        Check.due("no such comment in the open ballot", Check.INVALID, x.appeal(0, 0, 7));
        Check.finish(x);
        Check.due("nor in one that is not carried", Check.INVALID, x.appeal(0, 0, 7));
        Check.due("the value stays", 101, x.value(10));
    }
}
