/** Compares answers with those that are due, and sets up committees for the tests. */
final class Check {
    static final int INVALID = CommitteeBallots.INVALID_ARGUMENT;
    static final int IMPOSSIBLE = CommitteeBallots.NOT_POSSIBLE;
    static final int LIMIT = CommitteeBallots.LIMIT_REACHED;
    static final int NOT_FOUND = CommitteeBallots.NOT_FOUND;

    static final int APPROVE = 0;
    static final int DISAPPROVE = 1;
    static final int ABSTAIN = 2;
    static final int EDITORIAL = 0;
    static final int TECHNICAL = 1;
    static final int ACCEPT = 0;
    static final int MODIFY = 1;
    static final int REJECT = 2;

    private static final int[] FAR = {Integer.MIN_VALUE, Integer.MIN_VALUE + 1, Integer.MAX_VALUE - 1,
        Integer.MAX_VALUE};

    private static int made;
    private static int wrong;

    private Check() {
    }

    static void due(String about, long want, long got) {
        made++;
        if (got != want) {
            wrong++;
            System.out.println(about + ": answered " + got + ", due is " + want);
        }
    }

    static void holds(String about, boolean truth) {
        due(about, 1, truth ? 1 : 0);
    }

    /** Ends the program, with exit code 1 if an answer was not due. */
    static void end(String test) {
        System.out.println(test + ": " + made + " answers, " + wrong + " not as due");
        if (wrong > 0 || made == 0) {
            System.exit(1);
        }
    }

    /** Numbers that are in no range of the document. */
    static int[] far() {
        return FAR.clone();
    }

    static CommitteeBallots committee(int... weights) {
        CommitteeBallots x = new CommitteeBallots();
        for (int weight : weights) {
            x.addMember(weight);
        }
        return x;
    }

    /** A committee of three members of weight 1 and the clauses 10, 20, 30 of values 100, 200, 300. */
    static CommitteeBallots ordinary() {
        CommitteeBallots x = committee(1, 1, 1);
        x.addClause(10, 100);
        x.addClause(20, 200);
        x.addClause(30, 300);
        return x;
    }

    /** The ordinary committee with an open ballot. */
    static CommitteeBallots inBallot() {
        CommitteeBallots x = ordinary();
        x.open();
        return x;
    }

    /** Lets all members approve and the open ballot end. */
    static int carry(CommitteeBallots x) {
        for (int member = 0; member < x.count(0); member++) {
            x.vote(member, APPROVE);
        }
        return x.pass(x.count(11));
    }

    /** Lets the open ballot end without another vote. */
    static int finish(CommitteeBallots x) {
        return x.pass(x.count(11));
    }

    static void write(CommitteeBallots x, String text) {
        x.clearText();
        for (char sign : text.toCharArray()) {
            x.type(sign);
        }
    }
}
