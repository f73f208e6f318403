/** Promises 23 to 26: typing, clearing, faults and entering of texts. */
public final class TextsTest {
    public static void main(String[] args) {
        promise23Type();
        promise24ClearText();
        promise25NoFault();
        promise25Form();
        promise25Clause();
        promise25Value();
        promise25Room();
        promise25FirstReason();
        promise25WrongInputs();
        promise26Enter();
        promise26WrongInputs();
        promise26Room();
        Check.end("TextsTest");
    }

    private static void promise23Type() {
        CommitteeBallots x = new CommitteeBallots();
        Check.due("character 31", Check.INVALID, x.type(31));
        Check.due("character 127", Check.INVALID, x.type(127));
        for (int far : Check.far()) {
            Check.due("character far out of range", Check.INVALID, x.type(far));
        }
        Check.due("a blank", 1, x.type(32));
        Check.due("a tilde", 2, x.type(126));
        for (int length = 3; length <= 80; length++) {
            Check.due("length", length, x.type('1'));
        }
        Check.due("an 81st character", Check.LIMIT, x.type('1'));
        Check.due("range before limit", Check.INVALID, x.type(31));
        Check.due("length", 80, x.count(10));
    }

    private static void promise24ClearText() {
        CommitteeBallots x = Check.ordinary();
        Check.due("empty", 0, x.clearText());
        Check.write(x, "77t=1;");
        Check.due("a fault", 2, x.fault(1));
        Check.due("its length", 6, x.clearText());
        Check.due("no length", 0, x.count(10));
        Check.due("no fault", Check.NOT_FOUND, x.fault(1));
        Check.due("empty again", 0, x.clearText());
        Check.due("typed anew", 1, x.type('1'));
    }

    private static void promise25NoFault() {
        CommitteeBallots x = document();
        faultless(x, "");
        faultless(x, "5t=0;");
        faultless(x, "05e=9999;");
        faultless(x, "10t=0000;");
        faultless(x, "10t=1;5e=2;10t=1;");
        faultless(x, "10t=0098;5e=99;");
        faultless(x, "5t=1;5t=1;5t=1;5t=1;5t=1;5t=1;5t=1;5t=1;5t=1;5t=1;5t=1;5t=1;5t=1;5t=1;5t=1;5t=1;");
    }

    private static void promise25Form() {
        CommitteeBallots x = document();
        String[] wrong = {";", "x", " 5t=1;", "t=1;", "5", "5t", "5t=", "5t=1", "5t=;", "5t1;", "5=1;", "5x=1;",
            "5T=1;", "5tt=1;", "5t==1;", "5t=1;;", "005t=1;", "105t=1;", "5t=12345;", "5t=00001;", "5t=-1;",
            "5t= 1;", "5t =1;", "5 t=1;", "5t=1 ;", "5t=1,", "5t=1:", "/t=1;", ":t=1;", "5t=/;", "5t=:;"};
        for (String text : wrong) {
            int at = text.equals("5t=1;;") ? 5 : 0;
            faulty(x, text, at, 1);
        }
        faulty(x, "10e=1;5t=1", 6, 1);
        faulty(x, "10e=1;5t=1;9", 11, 1);
        faulty(x, "10e=1; 5t=1;", 6, 1);
        faulty(x, "10e=1;5t=1;77", 11, 1);
        Check.write(x, "5t=1;");
        x.clearText();
        x.type('5');
        Check.due("what stood behind the end is gone", 1, x.fault(1));
    }

    private static void promise25Clause() {
        CommitteeBallots x = document();
        faulty(x, "6t=1;", 0, 2);
        faulty(x, "0t=1;", 0, 2);
        faulty(x, "00t=1;", 0, 2);
        faulty(x, "1t=1;", 0, 2);
        faulty(x, "50t=1;", 0, 2);
        faulty(x, "5t=1;99e=1;", 5, 2);
        faulty(new CommitteeBallots(), "1t=1;", 0, 2);
    }

    private static void promise25Value() {
        CommitteeBallots x = document();
        faulty(x, "5t=100;", 0, 3);
        faulty(x, "5e=0100;", 0, 3);
        faulty(x, "10t=100;5e=100;", 8, 3);
        Check.write(x, "5t=101;");
        x.open();
        x.comment(0, 5, Check.TECHNICAL, 101);
        Check.carry(x);
        Check.due("not its value yet", Check.NOT_FOUND, x.fault(1));
        x.resolve(Check.ACCEPT, 0);
        Check.due("the value now", 3, x.fault(1));
        faultless(x, "5t=100;");
    }

    private static void promise25Room() {
        CommitteeBallots x = document();
        x.open();
        for (int comment = 0; comment < 28; comment++) {
            x.comment(0, 5, Check.TECHNICAL, 1);
        }
        faultless(x, "5t=1;10e=1;");
        faulty(x, "5t=1;10e=1;5e=1;", 11, 4);
        Check.carry(x);
        Check.due("of the latest ballot, though not open", 4, x.fault(1));
        for (int comment = 0; comment < 28; comment++) {
            x.resolve(Check.REJECT, 0);
        }
        Check.due("resolved ones count, too", 11, x.fault(0));
        x.open();
        Check.due("none in a new ballot", Check.NOT_FOUND, x.fault(0));
        for (int comment = 0; comment < 30; comment++) {
            x.comment(0, 5, Check.TECHNICAL, 1);
        }
        Check.due("no room at all", 0, x.fault(0));
        faultless(x, "");
        Check.write(x, "5t=1;");
        Check.finish(x);
        Check.due("comments of a ballot not carried are dropped", Check.NOT_FOUND, x.fault(1));
    }

    private static void promise25FirstReason() {
        CommitteeBallots x = document();
        x.open();
        for (int comment = 0; comment < 30; comment++) {
            x.comment(0, 5, Check.TECHNICAL, 1);
        }
        faulty(x, "7t=100", 0, 1);
        faulty(x, "7t=100;", 0, 2);
        faulty(x, "5t=100;", 0, 3);
        faulty(x, "5t=101;", 0, 4);
        faulty(x, "5t=101;x", 0, 4);
    }

    private static void promise25WrongInputs() {
        CommitteeBallots x = document();
        Check.due("without a fault: -1", Check.INVALID, x.fault(-1));
        Check.due("without a fault: 2", Check.INVALID, x.fault(2));
        Check.write(x, "x");
        Check.due("with a fault: -1", Check.INVALID, x.fault(-1));
        Check.due("with a fault: 2", Check.INVALID, x.fault(2));
        for (int far : Check.far()) {
            Check.due("far out of range", Check.INVALID, x.fault(far));
        }
    }

    private static void promise26Enter() {
        CommitteeBallots x = document();
        x.open();
        x.comment(0, 10, Check.TECHNICAL, 7);
        Check.write(x, "10e=0042;05t=9999;");
        Check.due("two comments", 2, x.enter(1));
        int[][] due = {{0, 10, 1, 7}, {1, 10, 0, 42}, {1, 5, 1, 9999}};
        for (int comment = 0; comment < 3; comment++) {
            for (int what = 0; what < 4; what++) {
                Check.due("comment " + comment + " tells " + what, due[comment][what], x.told(comment, what));
            }
            Check.due("in the open ballot", 0, x.told(comment, 4));
        }
        Check.due("the text stays", 18, x.count(10));
        Check.due("entered once more", 2, x.enter(0));
        Check.due("five comments", 5, x.count(6));
        x.vote(1, Check.DISAPPROVE);
        Check.due("a technical comment lets a disapproval count", 1, x.tally(3));
        x.clearText();
        int states = x.count(9);
        Check.due("states", states - 1, x.undo());
        Check.due("an empty text", 0, x.enter(0));
        Check.due("is a change, too", states, x.count(9));
    }

    private static void promise26WrongInputs() {
        CommitteeBallots x = document();
        Check.write(x, "5t=1;");
        Check.due("no ballot is open", Check.IMPOSSIBLE, x.enter(0));
        Check.due("range before possibility", Check.INVALID, x.enter(2));
        x.open();
        Check.due("member -1", Check.INVALID, x.enter(-1));
        Check.due("member 2 of two", Check.INVALID, x.enter(2));
        for (int far : Check.far()) {
            Check.due("member far out of range", Check.INVALID, x.enter(far));
        }
        Check.write(x, "5t=1;5t=100;");
        Check.due("a fault", Check.IMPOSSIBLE, x.enter(0));
        Check.due("makes none of them", 0, x.count(6));
        Check.due("range before the fault", Check.INVALID, x.enter(2));
        Check.write(x, "5t=1;");
        Check.finish(x);
        Check.due("the ballot has ended", Check.IMPOSSIBLE, x.enter(0));
        x.clearText();
        Check.due("also for an empty text", Check.IMPOSSIBLE, x.enter(0));
    }

    private static void promise26Room() {
        CommitteeBallots x = document();
        x.open();
        for (int comment = 0; comment < 28; comment++) {
            x.comment(0, 5, Check.TECHNICAL, 1);
        }
        Check.write(x, "5t=1;5t=2;5t=3;");
        Check.due("no room for three", Check.IMPOSSIBLE, x.enter(0));
        Check.due("still 28", 28, x.count(6));
        Check.write(x, "5t=1;5t=2;");
        Check.due("room for two", 2, x.enter(0));
        Check.due("the last one", 2, x.told(29, 3));
        Check.due("then no more", Check.IMPOSSIBLE, x.enter(0));
        x.clearText();
        Check.due("but for no comment", 0, x.enter(0));
    }

    /** Two members, and the clauses 5 of value 100 and 10 of value 99. */
    private static CommitteeBallots document() {
        CommitteeBallots x = Check.committee(1, 1);
        x.addClause(5, 100);
        x.addClause(10, 99);
        return x;
    }

    private static void faultless(CommitteeBallots x, String text) {
        faulty(x, text, Check.NOT_FOUND, Check.NOT_FOUND);
    }

    private static void faulty(CommitteeBallots x, String text, int position, int reason) {
        Check.write(x, text);
        Check.due("length of " + text, text.length(), x.count(10));
        Check.due("position of the fault of " + text, position, x.fault(0));
        Check.due("reason of the fault of " + text, reason, x.fault(1));
    }
}
