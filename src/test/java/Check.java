import java.util.function.Supplier;

/** Compares answers with those that are due, and sets up committees for the tests. */
final class Check {
    /** A call of a committee. */
    interface Call {
        int on(CommitteeBallots x);
    }

    /** A call of a committee with one argument that is tried out. */
    interface CallWith {
        int on(CommitteeBallots x, int argument);
    }

    static final int INVALID = CommitteeBallots.INVALID_ARGUMENT;
    static final int IMPOSSIBLE = CommitteeBallots.NOT_POSSIBLE;
    static final int LIMIT = CommitteeBallots.LIMIT_REACHED;
    static final int NOT_FOUND = CommitteeBallots.NOT_FOUND;

    static final int APPROVE = 0;
    static final int DISAPPROVE = 1;
    static final int ABSTAIN = 2;
    static final int EDITORIAL = 0;
    static final int TECHNICAL = 1;
    static final int ACCEPT = 0;
    static final int MODIFY = 1;
    static final int REJECT = 2;

    private static final int[] FAR = {Integer.MIN_VALUE, Integer.MIN_VALUE + 1, Integer.MAX_VALUE - 1,
        Integer.MAX_VALUE};

    private static int made;
    private static int wrong;
    private static String place = "";

    private Check() {
    }

    /** What the answers that follow are about, until it is told anew. */
    static void begin(String newPlace) {
        place = newPlace + ": ";
    }

    static int made() {
        return made;
    }

    static void due(String about, long want, long got) {
        made++;
        if (got != want) {
            wrong++;
            System.out.println(place + about + ": answered " + got + ", due is " + want);
        }
    }

    static void holds(String about, boolean truth) {
        due(about, 1, truth ? 1 : 0);
    }

    /** A call that is refused with an error, and changes nothing by it. */
    static void refused(String about, int error, Supplier<CommitteeBallots> setUp, Call call) {
        CommitteeBallots x = setUp.get();
        due(about, error, call.on(x));
        // Asked of two objects, as one alone may be used for 512 calls only.
        holds(about + " changes nothing", Facts.all(setUp.get()).equals(Facts.all(x)));
    }

    /** A call that takes the numbers of a range for an argument, both ends with them, and no other. */
    static void takes(int least, int greatest, Supplier<CommitteeBallots> setUp, CallWith call) {
        for (int argument : new int[] {least, greatest}) {
            holds("argument " + argument + " is taken", call.on(setUp.get(), argument) != INVALID);
        }
        for (int argument : new int[] {least - 1, greatest + 1}) {
            refused("argument " + argument, INVALID, setUp, x -> call.on(x, argument));
        }
        for (int argument : FAR) {
            refused("argument " + argument, INVALID, setUp, x -> call.on(x, argument));
        }
    }

    /** Ends the program, with exit code 1 if an answer was not due. */
    static void end(String test) {
        System.out.println(test + ": " + made + " answers, " + wrong + " not as due");
        if (wrong > 0 || made == 0) {
            System.exit(1);
        }
    }

    /** Numbers that are in no range of the document. */
    static int[] far() {
        return FAR.clone();
    }

    static CommitteeBallots committee(int... weights) {
        CommitteeBallots x = new CommitteeBallots();
        for (int weight : weights) {
            x.addMember(weight);
        }
        return x;
    }

    /** A committee of three members of weight 1 and the clauses 10, 20, 30 of values 100, 200, 300. */
    static CommitteeBallots ordinary() {
        CommitteeBallots x = committee(1, 1, 1);
        x.addClause(10, 100);
        x.addClause(20, 200);
        x.addClause(30, 300);
        return x;
    }

    /** The ordinary committee with an open ballot. */
    static CommitteeBallots inBallot() {
        CommitteeBallots x = ordinary();
        x.open();
        return x;
    }

    /** Ten members, and the ordinary clauses. */
    static CommitteeBallots tenMembers() {
        CommitteeBallots x = ordinary();
        for (int member = 3; member < 10; member++) {
            x.addMember(1);
        }
        return x;
    }

    /** Three members and the clauses 1 to 20 of value 0. */
    static CommitteeBallots twentyClauses() {
        CommitteeBallots x = committee(1, 1, 1);
        for (int clause = 1; clause <= 20; clause++) {
            x.addClause(clause, 0);
        }
        return x;
    }

    /** An open ballot with a number of technical comments of the first member on the first clause. */
    static CommitteeBallots withComments(int comments) {
        CommitteeBallots x = inBallot();
        for (int comment = 0; comment < comments; comment++) {
            x.comment(0, 10, TECHNICAL, 101);
        }
        return x;
    }

    /** A carried ballot with a pending technical comment of the first member, 1 more, on each clause. */
    static CommitteeBallots pending(int... clauses) {
        CommitteeBallots x = inBallot();
        for (int clause : clauses) {
            x.comment(0, clause, TECHNICAL, x.value(clause) + 1);
        }
        carry(x);
        return x;
    }

    /** The same with each comment accepted. */
    static CommitteeBallots accepted(int... clauses) {
        CommitteeBallots x = pending(clauses);
        for (int clause : clauses) {
            x.resolve(ACCEPT, 0);
        }
        return x;
    }

    /** One member and a clause, in an edition that ballots of a day have brought. */
    static CommitteeBallots inEdition(int edition) {
        CommitteeBallots x = committee(1);
        x.addClause(50, 0);
        x.set(2, 1);
        for (int next = 2; next <= edition; next++) {
            x.open();
            x.comment(0, 50, TECHNICAL, next);
            carry(x);
            x.resolve(ACCEPT, 0);
        }
        return x;
    }

    /** The ordinary committee on a day. */
    static CommitteeBallots onDay(int day) {
        CommitteeBallots x = ordinary();
        for (int left = day; left > 0; left -= 365) {
            x.pass(Math.min(left, 365));
        }
        return x;
    }

    /** The ordinary committee with a text. */
    static CommitteeBallots withText(String text) {
        CommitteeBallots x = ordinary();
        write(x, text);
        return x;
    }

    /** Lets all members approve and the open ballot end. */
    static int carry(CommitteeBallots x) {
        for (int member = 0; member < x.count(0); member++) {
            x.vote(member, APPROVE);
        }
        return x.pass(x.count(11));
    }

    /** Lets the open ballot end without another vote. */
    static int finish(CommitteeBallots x) {
        return x.pass(x.count(11));
    }

    static void write(CommitteeBallots x, String text) {
        x.clearText();
        for (char sign : text.toCharArray()) {
            x.type(sign);
        }
    }
}
