import java.util.function.Supplier;

/** The sentences of promises 23 to 26: typing, clearing, faults and entering of texts. */
final class TextSentences {
    private TextSentences() {
    }

    static void test() {
        type();
        typeErrors();
        clearText();
        fault();
        faultErrors();
        enter();
        enterErrors();
        enterIsNotPossible();
    }

    private static void type() {
        Sentence.of("Promise 23", "`int type(int character)`: Appends a character to the text.");
        CommitteeBallots x = Check.inBallot();
        for (char sign : "10t=12;".toCharArray()) {
            x.type(sign);
        }
        x.enter(0);
        Check.due("the characters in their order", 12, x.told(0, 3));
        Sentence.of("Promise 23", "`character`: 32 to 126");
        Check.takes(32, 126, Check::ordinary, CommitteeBallots::type);
        Sentence.of("Promise 23", "Returns the length of the text;");
        CommitteeBallots all = new CommitteeBallots();
        for (int length = 1; length <= 80; length++) {
            Check.due("length", length, all.type(31 + length));
        }
        all.clearText();
        for (int character = 112; character <= 126; character++) {
            Check.due("length", character - 111, all.type(character));
        }
    }

    private static void typeErrors() {
        Sentence.of("Promise 23", "INVALID_ARGUMENT if character is out of range;");
        for (int character : new int[] {0, 9, 10, 31, 127, 128, 255, 256 + '1', 65536 + '1', -1}) {
            Check.refused("character " + character, Check.INVALID, Check::ordinary, x -> x.type(character));
            Check.refused("character " + character + " more", Check.INVALID, () -> Check.withText("x".repeat(80)),
                    x -> x.type(character));
        }
        Sentence.of("Promise 23", "LIMIT_REACHED if it has 80 characters.");
        for (int character : new int[] {32, '1', 126}) {
            Check.refused("an 81st", Check.LIMIT, () -> Check.withText("x".repeat(80)), x -> x.type(character));
            Check.due("an 80th", 80, Check.withText("x".repeat(79)).type(character));
        }
    }

    private static void clearText() {
        Sentence.of("Promise 24", "`int clearText()`: Empties the text.");
        CommitteeBallots x = Check.withText("x");
        x.clearText();
        Check.due("no length", 0, x.count(10));
        Check.due("no fault", Check.NOT_FOUND, x.fault(0));
        for (char sign : "10t=1;".toCharArray()) {
            x.type(sign);
        }
        Check.due("nothing of it stands ahead", Check.NOT_FOUND, x.fault(0));
        Sentence.of("Promise 24", "Returns the length it had.");
        for (int length : new int[] {0, 1, 79, 80}) {
            CommitteeBallots text = Check.withText("x".repeat(length));
            Check.due("the length", length, text.clearText());
            Check.due("empty", 0, text.clearText());
        }
    }

    private static void fault() {
        Sentence.of("Promise 25", "`int fault(int what)`: Tells about the fault of the text.");
        CommitteeBallots x = Check.withText("10t=1;20e=200;");
        Check.due("position", 6, x.fault(0));
        Check.due("reason", 3, x.fault(1));
        Check.due("it is told again", 6, x.fault(0));
        Sentence.of("Promise 25", "`what`: 0: its position;");
        Check.due("the first", 0, Check.withText("x10t=1;").fault(0));
        for (int comments = 0; comments <= 13; comments++) {
            Check.due("behind " + comments, 6 * comments, Check.withText("10t=1;".repeat(comments) + "x").fault(0));
        }
        Sentence.of("Promise 25", "1: its reason");
        Check.due("1", 1, Check.withText("10t=1").fault(1));
        Check.due("2", 2, Check.withText("11t=1;").fault(1));
        Check.due("3", 3, Check.withText("10t=100;").fault(1));
        CommitteeBallots full = Check.withComments(30);
        Check.write(full, "10t=1;");
        Check.due("4", 4, full.fault(1));
        Sentence.of("Promise 25", "Returns that;");
        Check.due("position 0 is told", 0, full.fault(0));
    }

    private static void faultErrors() {
        Sentence.of("Promise 25", "INVALID_ARGUMENT if what is out of range;");
        Check.takes(0, 1, CommitteeBallots::new, CommitteeBallots::fault);
        Check.takes(0, 1, () -> Check.withText("x"), CommitteeBallots::fault);
        Sentence.of("Promise 25", "NOT_FOUND if the text has no fault (also if it is empty).");
        for (int what = 0; what <= 1; what++) {
            int it = what;
            Check.refused("empty", Check.NOT_FOUND, CommitteeBallots::new, x -> x.fault(it));
            Check.refused("empty, no room", Check.NOT_FOUND, () -> Check.withComments(30), x -> x.fault(it));
            Check.refused("a comment", Check.NOT_FOUND, () -> Check.withText("10t=1;"), x -> x.fault(it));
            Check.refused("13 comments", Check.NOT_FOUND, () -> Check.withText("10t=1;".repeat(13)), x -> x.fault(it));
            String eighty = "10t=1;".repeat(12) + "20t=001;";
            Check.refused("80 characters", Check.NOT_FOUND, () -> Check.withText(eighty), x -> x.fault(it));
        }
    }

    /** An open ballot with a number of comments, and a text. */
    private static CommitteeBallots inBallot(int comments, String text) {
        CommitteeBallots x = Check.withComments(comments);
        Check.write(x, text);
        return x;
    }

    private static void enter() {
        Sentence.of("Promise 26", "`int enter(int member)`: Makes all comments of the text, which stays, for a "
                + "member.");
        CommitteeBallots x = inBallot(1, "30e=0;20t=9999;10t=0102;");
        Check.due("three", 3, x.enter(2));
        int[][] due = {{2, 30, 0, 0, 0}, {2, 20, 1, 9999, 0}, {2, 10, 1, 102, 0}};
        for (int comment = 0; comment < 3; comment++) {
            for (int what = 0; what < 5; what++) {
                Check.due("comment " + (comment + 1) + " tells " + what, due[comment][what], x.told(comment + 1, what));
            }
        }
        Check.due("the one ahead is as it was", 0, x.told(0, 0));
        Check.due("the text stays", 24, x.count(10));
        Check.due("the values stay", 200, x.value(20));
        Sentence.of("Promise 26", "`member`: number of the member");
        Check.takes(0, 2, () -> inBallot(0, "10t=1;"), CommitteeBallots::enter);
        Check.takes(0, 2, () -> inBallot(30, ""), CommitteeBallots::enter);
        Sentence.of("Promise 26", "Returns how many there are in it;");
        for (int comments = 0; comments <= 13; comments++) {
            CommitteeBallots some = inBallot(0, "10t=1;".repeat(comments));
            Check.due("comments", comments, some.enter(0));
            Check.due("comments", comments, some.count(6));
            Check.due("once more", comments, some.enter(1));
            Check.due("comments", 2 * comments, some.count(6));
        }
        CommitteeBallots shortest = Check.committee(1);
        shortest.addClause(1, 5);
        shortest.open();
        Check.write(shortest, "1t=1;".repeat(16));
        Check.due("the most in 80 characters", 16, shortest.enter(0));
        Check.due("no room for as many again", Check.IMPOSSIBLE, shortest.enter(0));
    }

    private static void enterErrors() {
        Sentence.of("Promise 26", "INVALID_ARGUMENT;");
        Check.refused("no ballot is open", Check.INVALID, Check::ordinary, x -> x.enter(3));
        Check.refused("a fault", Check.INVALID, () -> inBallot(0, "x"), x -> x.enter(-1));
        Check.refused("without members", Check.INVALID, CommitteeBallots::new, x -> x.enter(0));
    }

    private static void enterIsNotPossible() {
        Sentence.of("Promise 26", "NOT_POSSIBLE if no ballot is open,");
        Check.refused("none was opened", Check.IMPOSSIBLE, () -> Check.withText("10t=1;"), x -> x.enter(0));
        Check.refused("nor for an empty text", Check.IMPOSSIBLE, Check::ordinary, x -> x.enter(0));
        Supplier<CommitteeBallots> ended = () -> {
            CommitteeBallots x = Check.accepted(10);
            Check.write(x, "10t=1;");
            return x;
        };
        Check.refused("it has ended", Check.IMPOSSIBLE, ended, x -> x.enter(0));
        Sentence.of("Promise 26", "or the text has a fault.");
        String[] texts = {"x", "10t=1", "10t=1;20t=1", "11t=1;", "10t=1;10t=100;", "10t=1;20t=1;30t=300;"};
        for (String text : texts) {
            Check.refused("fault in " + text, Check.IMPOSSIBLE, () -> inBallot(0, text), x -> x.enter(0));
        }
        Check.refused("no room", Check.IMPOSSIBLE, () -> inBallot(30, "10t=1;"), x -> x.enter(0));
        Check.refused("room for one of two", Check.IMPOSSIBLE, () -> inBallot(29, "10t=1;20t=1;"), x -> x.enter(0));
        Check.due("room for one", 1, inBallot(29, "10t=1;").enter(0));
        Check.due("none in a full ballot", 0, inBallot(30, "").enter(0));
    }
}
