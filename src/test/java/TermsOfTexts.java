import java.util.function.Supplier;
import java.util.regex.Pattern;

/** The sentences under "Terms" on texts, changes and errors. */
final class TermsOfTexts {
    private static final Pattern FORM = Pattern.compile("[0-9]{1,2}[te]=[0-9]{1,4};");

    private static final Check.Call[] QUESTIONS = {x -> x.member(0, 0), x -> x.value(10), x -> x.valueIn(10, 1),
        x -> x.clause(0), x -> x.count(0), x -> x.tally(0), CommitteeBallots::lacking, x -> x.told(0, 0),
        CommitteeBallots::next, x -> x.changes(1), x -> x.change(1, 0, 0), x -> x.type('1'),
        CommitteeBallots::clearText, x -> x.fault(0)};

    private TermsOfTexts() {
    }

    static void test() {
        theTextHasAtMost80Characters();
        theTextIsASequenceOfComments();
        clausesHaveOneOrTwoDigits();
        kindsAreTOrE();
        theSignStandsBetween();
        valuesHaveOneToFourDigits();
        zerosMayStandAhead();
        theFaultIsThePositionOfTheFirst();
        reason1IsTheForm();
        reason2IsTheClause();
        reason3IsTheValue();
        reason4IsTheRoom();
        theFirstReasonApplies();
        changesAreTheseCalls();
        theHistoryHasAtMostFourStates();
        changesRecordAllButTheText();
        theOldestStateIsDropped();
        errorsHaveAnOrder();
        errorsChangeNothing();
        noSuchNumberIsInvalid();
        constants();
    }

    private static void theTextHasAtMost80Characters() {
        Sentence.of("Texts", "There is a text of at most 80 characters, initially empty.");
        CommitteeBallots x = new CommitteeBallots();
        Check.due("empty", 0, x.count(10));
        for (int length = 1; length <= 80; length++) {
            Check.due("length", length, x.type(' '));
        }
        Check.due("no more", Check.LIMIT, x.type(' '));
        Check.due("length", 80, x.count(10));
        Check.due("cleared", 80, x.clearText());
        Check.due("room again", 1, x.type(' '));
    }

    private static void theTextIsASequenceOfComments() {
        Sentence.of("Texts", "It is a sequence of comments, each followed by \";\":");
        faulty("", Check.NOT_FOUND, Check.NOT_FOUND);
        faulty("10t=1;", Check.NOT_FOUND, Check.NOT_FOUND);
        faulty("10t=1;20e=2;30t=3;", Check.NOT_FOUND, Check.NOT_FOUND);
        faulty("10t=1", 0, 1);
        faulty("10t=1;20e=2", 6, 1);
        faulty("10t=1,20e=2;", 0, 1);
        faulty("10t=1;;20e=2;", 6, 1);
        faulty(";10t=1;", 0, 1);
        // Each comment of the longest text stands in its place.
        String longest = "10t=1;".repeat(13) + ";";
        faulty(longest, 78, 1);
        faulty(longest.substring(0, 78), Check.NOT_FOUND, Check.NOT_FOUND);
    }

    private static void clausesHaveOneOrTwoDigits() {
        Sentence.of("Texts", "a clause (1 or 2 digits),");
        CommitteeBallots x = Check.committee(1);
        x.addClause(1, 5);
        x.addClause(99, 5);
        faulty(x, "1t=1;", Check.NOT_FOUND, Check.NOT_FOUND);
        faulty(x, "99t=1;", Check.NOT_FOUND, Check.NOT_FOUND);
        faulty(x, "t=1;", 0, 1);
        faulty(x, "099t=1;", 0, 1);
        faulty(x, "001t=1;", 0, 1);
        faulty(x, "100t=1;", 0, 1);
    }

    private static void kindsAreTOrE() {
        Sentence.of("Texts", "\"t\" (technical) or \"e\" (editorial),");
        for (char sign = 32; sign <= 126; sign++) {
            String text = new StringBuilder("10").append(sign).append("=1;").toString();
            boolean isKind = sign == 't' || sign == 'e';
            faulty(text, isKind ? Check.NOT_FOUND : 0, isKind ? Check.NOT_FOUND : 1);
        }
        faulty("10=1;", 0, 1);
        faulty("10te=1;", 0, 1);
        CommitteeBallots x = Check.withText("10t=1;10e=2;");
        x.open();
        x.enter(0);
        Check.due("t is technical", 1, x.told(0, 2));
        Check.due("e is editorial", 0, x.told(1, 2));
    }

    private static void theSignStandsBetween() {
        Sentence.of("Texts", "\"=\",");
        for (char sign = 32; sign <= 126; sign++) {
            String text = new StringBuilder("10t").append(sign).append("1;").toString();
            faulty(text, sign == '=' ? Check.NOT_FOUND : 0, sign == '=' ? Check.NOT_FOUND : 1);
        }
        faulty("10t1;", 0, 1);
        faulty("10t==1;", 0, 1);
    }

    private static void valuesHaveOneToFourDigits() {
        Sentence.of("Texts", "and a value (1 to 4 digits;");
        for (String value : new String[] {"0", "9", "99", "999", "9999"}) {
            faulty("10t=" + value + ";", Check.NOT_FOUND, Check.NOT_FOUND);
        }
        faulty("10t=;", 0, 1);
        faulty("10t=10000;", 0, 1);
        faulty("10t=00000;", 0, 1);
        faulty("10t=99999;", 0, 1);
        // Every sign in place of each one of a comment.
        for (int place = 0; place < 8; place++) {
            for (char sign = 32; sign <= 126; sign++) {
                StringBuilder text = new StringBuilder("10t=123;");
                text.setCharAt(place, sign);
                boolean hasForm = FORM.matcher(text).matches();
                CommitteeBallots x = Check.withText(text.toString());
                Check.due("the form of " + text, hasForm ? 0 : 1, x.fault(1) == 1 ? 1 : 0);
            }
        }
    }

    private static void zerosMayStandAhead() {
        Sentence.of("Texts", "zeros may stand ahead in both).");
        CommitteeBallots x = Check.committee(1);
        x.addClause(1, 5);
        faulty(x, "01t=0001;", Check.NOT_FOUND, Check.NOT_FOUND);
        faulty(x, "01t=05;", 0, 3);
        faulty(x, "1t=0005;", 0, 3);
        faulty(x, "01t=0000;", Check.NOT_FOUND, Check.NOT_FOUND);
        Check.write(x, "01t=0012;");
        x.open();
        Check.due("entered", 1, x.enter(0));
        Check.due("the clause", 1, x.told(0, 1));
        Check.due("the value", 12, x.told(0, 3));
    }

    private static void theFaultIsThePositionOfTheFirst() {
        Sentence.of("Texts", "The fault of the text is the position, from 0, of the first character of the first "
                + "comment that is not possible;");
        faulty("x", 0, 1);
        faulty("10t=100;10t=1;", 0, 3);
        faulty("10t=1;11t=1;x", 6, 2);
        faulty("10t=1;20t=1;30t=300;11t=1;", 12, 3);
        faulty("10t=0001;20e=2;x", 15, 1);
        faulty("10t=1;".repeat(13) + "10", 78, 1);
        faulty("10t=12;".repeat(11) + "10t", 77, 1);
    }

    private static void reason1IsTheForm() {
        Sentence.of("Texts", "its reason is 1 if it is not of this form,");
        for (String text : new String[] {"1", "10", "10t", "10t=", "10t=1", " ", ";", "t", "=", "10 t=1;", "10t=1 ;"}) {
            faulty(text, 0, 1);
        }
        CommitteeBallots x = Check.withText("10t=1;");
        x.clearText();
        for (char sign : "10t=1".toCharArray()) {
            x.type(sign);
            Check.due("what was cleared does not count", 1, x.fault(1));
        }
        x.type(';');
        Check.due("whole", Check.NOT_FOUND, x.fault(1));
    }

    private static void reason2IsTheClause() {
        Sentence.of("Texts", "2 if there is no such clause,");
        for (int clause = 0; clause <= 99; clause++) {
            boolean isThere = clause == 10 || clause == 20 || clause == 30;
            faulty(clause + "t=1;", isThere ? Check.NOT_FOUND : 0, isThere ? Check.NOT_FOUND : 2);
        }
        faulty(new CommitteeBallots(), "1t=1;", 0, 2);
    }

    private static void reason3IsTheValue() {
        Sentence.of("Texts", "3 if the value is that of the clause,");
        faulty("10t=99;", Check.NOT_FOUND, Check.NOT_FOUND);
        faulty("10t=100;", 0, 3);
        faulty("10t=101;", Check.NOT_FOUND, Check.NOT_FOUND);
        faulty("10t=200;", Check.NOT_FOUND, Check.NOT_FOUND);
        CommitteeBallots x = Check.pending(10);
        faulty(x, "10t=101;", Check.NOT_FOUND, Check.NOT_FOUND);
        x.resolve(Check.ACCEPT, 0);
        faulty(x, "10t=101;", 0, 3);
        faulty(x, "10t=100;", Check.NOT_FOUND, Check.NOT_FOUND);
    }

    private static void reason4IsTheRoom() {
        Sentence.of("Texts", "4 if there is no room for it (the comments of the latest ballot, open or not, and those "
                + "ahead of it in the text count);");
        faulty(Check.withComments(29), "10t=1;", Check.NOT_FOUND, Check.NOT_FOUND);
        faulty(Check.withComments(30), "10t=1;", 0, 4);
        faulty(Check.withComments(30), "", Check.NOT_FOUND, Check.NOT_FOUND);
        faulty(Check.withComments(28), "10t=1;20t=1;", Check.NOT_FOUND, Check.NOT_FOUND);
        faulty(Check.withComments(28), "10t=1;20t=1;30t=1;", 12, 4);
        faulty(Check.withComments(17), "10t=1;".repeat(13), Check.NOT_FOUND, Check.NOT_FOUND);
        faulty(Check.withComments(18), "10t=1;".repeat(13), 72, 4);
        CommitteeBallots x = Check.withComments(30);
        Check.carry(x);
        faulty(x, "10t=1;", 0, 4);
        for (int comment = 0; comment < 30; comment++) {
            x.resolve(Check.REJECT, 0);
        }
        faulty(x, "10t=1;", 0, 4);
        x.open();
        faulty(x, "10t=1;", Check.NOT_FOUND, Check.NOT_FOUND);
        CommitteeBallots dropped = Check.withComments(30);
        Check.finish(dropped);
        faulty(dropped, "10t=1;", Check.NOT_FOUND, Check.NOT_FOUND);
    }

    private static void theFirstReasonApplies() {
        Sentence.of("Texts", "the first one of these that applies.");
        CommitteeBallots full = Check.withComments(30);
        faulty(full, "11t=100", 0, 1);
        faulty(full, "11t=100;", 0, 2);
        faulty(full, "10t=100;", 0, 3);
        faulty(full, "10t=101;", 0, 4);
        faulty(Check.withComments(29), "10t=1;10t=100;", 6, 3);
        faulty(Check.withComments(29), "10t=1;11t=100;", 6, 2);
        faulty(Check.withComments(29), "10t=1;11t=100", 6, 1);
        faulty(Check.withComments(29), "10t=1;10t=101;11t=1", 6, 4);
    }

    private static void faulty(String text, int position, int reason) {
        faulty(Check.ordinary(), text, position, reason);
    }

    private static void faulty(CommitteeBallots x, String text, int position, int reason) {
        Check.write(x, text);
        Check.due("position in \"" + text + "\"", position, x.fault(0));
        Check.due("reason in \"" + text + "\"", reason, x.fault(1));
    }

    private static void changesAreTheseCalls() {
        Sentence.of("Changes and errors", "The changes are the calls of addMember, addClause, set, open, vote, "
                + "comment, enter, pass, resolve and appeal that return no error.");
        change("addMember", CommitteeBallots::new, x -> x.addMember(1));
        change("addClause", CommitteeBallots::new, x -> x.addClause(1, 1));
        change("set", CommitteeBallots::new, x -> x.set(0, 1));
        change("set to the value that it has", Check::ordinary, x -> x.set(0, 50));
        change("open", Check::ordinary, CommitteeBallots::open);
        change("vote", Check::inBallot, x -> x.vote(0, Check.APPROVE));
        change("comment", Check::inBallot, x -> x.comment(0, 10, 1, 101));
        change("enter of three comments", TermsOfTexts::textInBallot, x -> x.enter(0));
        change("enter of an empty text", Check::inBallot, x -> x.enter(0));
        change("pass", CommitteeBallots::new, x -> x.pass(1));
        change("pass that ends a ballot", () -> Check.withComments(3), x -> x.pass(30));
        change("resolve", () -> Check.pending(10), x -> x.resolve(Check.ACCEPT, 0));
        change("appeal that fails", () -> Check.accepted(10), x -> x.appeal(0, 0, 1));
        change("appeal that succeeds", () -> Check.accepted(10), x -> x.appeal(0, 0, 7));
        for (Check.Call question : QUESTIONS) {
            CommitteeBallots x = Check.inBallot();
            question.on(x);
            Check.due("no other call leaves a state", 3, x.undo());
            Check.due("but that of the last change", 0, x.count(4));
        }
    }

    /** An open ballot and a text of three comments. */
    private static CommitteeBallots textInBallot() {
        CommitteeBallots x = Check.inBallot();
        Check.write(x, "10t=1;20e=2;30t=3;");
        return x;
    }

    /** A call that leaves one state, by which it is undone. */
    private static void change(String about, Supplier<CommitteeBallots> setUp, Check.Call call) {
        CommitteeBallots x = setUp.get();
        int states = Math.min(4, x.count(9) + 1);
        Check.holds(about + " returns no error", call.on(x) >= 0);
        Check.due(about + " leaves a state", states, x.count(9));
        Check.due(about + " is undone", states - 1, x.undo());
        Check.holds("all is as before " + about, Facts.of(setUp.get()).equals(Facts.of(x)));
    }

    private static void theHistoryHasAtMostFourStates() {
        Sentence.of("Changes and errors", "A history of at most 4 states is kept:");
        CommitteeBallots x = new CommitteeBallots();
        Check.due("none", 0, x.count(9));
        Check.due("none to undo", Check.IMPOSSIBLE, x.undo());
        for (int day = 1; day <= 10; day++) {
            x.pass(1);
            Check.due("after " + day + " changes", Math.min(day, 4), x.count(9));
        }
        for (int left = 3; left >= 0; left--) {
            Check.due("left", left, x.undo());
            Check.due("left", left, x.count(9));
        }
        Check.due("no fifth", Check.IMPOSSIBLE, x.undo());
    }

    private static void changesRecordAllButTheText() {
        Sentence.of("Changes and errors", "each change records everything before it but the text,");
        comesBack("a document", Check::ordinary, x -> x.addClause(5, 50), x -> x.addClause(15, 150), x -> x.set(2, 1),
                CommitteeBallots::open);
        comesBack("an open ballot", TermsOfTexts::textInBallot, x -> x.enter(2), x -> x.vote(0, Check.DISAPPROVE),
                x -> x.addMember(9), x -> x.pass(30));
        comesBack("a carried ballot", () -> Check.pending(30, 10), x -> x.resolve(Check.MODIFY, 109),
                x -> x.resolve(Check.ACCEPT, 0), x -> x.pass(1), x -> x.appeal(0, 0, 7));
        comesBack("a resolution", () -> Check.accepted(10, 20), x -> x.appeal(0, 0, 7), x -> x.pass(1),
                x -> x.resolve(Check.MODIFY, 109), x -> x.appeal(1, 0, 7));
        comesBack("resolutions behind the next ballot", () -> Check.accepted(30, 10), x -> x.set(2, 1),
                CommitteeBallots::open, x -> x.comment(1, 20, Check.EDITORIAL, 0), x -> x.pass(1));
        comesBack("a ballot ahead of the next one", () -> {
            CommitteeBallots x = Check.withComments(2);
            x.vote(0, Check.DISAPPROVE);
            x.pass(31);
            return x;
        }, x -> x.set(0, 1), CommitteeBallots::open, x -> x.vote(1, Check.APPROVE), x -> x.pass(30));
        resolutionsComeBack();
        Sentence.of("Changes and errors", "everything before it but the text,");
        CommitteeBallots text = textInBallot();
        text.type('1');
        text.pass(1);
        text.type('0');
        text.undo();
        Check.due("the text is as it was typed", 20, text.count(10));
        text.pass(1);
        text.clearText();
        text.undo();
        Check.due("nor does a cleared one come back", 0, text.count(10));
    }

    /** Some of the changes are undone, and made again to the same end. */
    private static void comesBack(String about, Supplier<CommitteeBallots> setUp, Check.Call... changes) {
        String end = Facts.of(changed(setUp, changes, changes.length));
        for (int kept = 0; kept < changes.length; kept++) {
            CommitteeBallots x = changed(setUp, changes, changes.length);
            for (int left = changes.length - 1; left >= kept; left--) {
                Check.due(about + ": left", left, x.undo());
            }
            String before = Facts.of(changed(setUp, changes, kept));
            Check.holds(about + " before change " + kept, before.equals(Facts.of(x)));
            for (int number = kept; number < changes.length; number++) {
                changes[number].on(x);
            }
            Check.holds(about + ": the same end again", end.equals(Facts.of(x)));
        }
    }

    private static CommitteeBallots changed(Supplier<CommitteeBallots> setUp, Check.Call[] changes, int made) {
        CommitteeBallots x = setUp.get();
        for (int number = 0; number < made; number++) {
            Check.holds("change " + number + " returns no error", changes[number].on(x) >= 0);
        }
        return x;
    }

    /** What is not told of resolutions, but tells in what an appeal does. */
    private static void resolutionsComeBack() {
        CommitteeBallots x = Check.accepted(10);
        x.open();
        x.undo();
        Check.due("an appeal behind an opening that was undone", 1, x.appeal(0, 0, 7));
        Check.due("takes back to the beginning of the first ballot", 100, x.value(10));
        Check.due("and its edition", 1, x.count(2));
        CommitteeBallots days = Check.inBallot();
        days.pass(30);
        days.open();
        days.undo();
        days.undo();
        Check.due("the days of the first ballot", 30, days.count(11));
        Check.due("are open again", 0, days.pass(29));
        Check.due("and end", 1, days.pass(1));
        CommitteeBallots order = Check.withComments(2);
        order.comment(0, 20, Check.TECHNICAL, 201);
        Check.carry(order);
        for (int comment = 0; comment < 3; comment++) {
            order.resolve(Check.ACCEPT, 0);
        }
        order.appeal(0, 0, 7);
        order.resolve(Check.ACCEPT, 0);
        Check.due("the second one came first", 1, order.change(2, 0, 2));
        order.undo();
        order.undo();
        Check.due("the first one did, when its later resolution was undone", 0, order.change(2, 0, 2));
        order.appeal(2, 0, 7);
        order.resolve(Check.ACCEPT, 0);
        Check.due("and does when the edition comes again", 0, order.change(2, 0, 2));
    }

    private static void theOldestStateIsDropped() {
        Sentence.of("Changes and errors", "and if there are 5 states then, the oldest one is dropped.");
        CommitteeBallots four = new CommitteeBallots();
        CommitteeBallots five = new CommitteeBallots();
        for (int member = 0; member < 5; member++) {
            if (member < 4) {
                four.addMember(1);
            }
            five.addMember(1);
        }
        for (int undone = 1; undone <= 4; undone++) {
            four.undo();
            five.undo();
            Check.due("members after four changes", 4 - undone, four.count(0));
            Check.due("members after five changes", 5 - undone, five.count(0));
        }
        Check.due("the first change stays", Check.IMPOSSIBLE, five.undo());
        Check.due("one member", 1, five.count(0));
    }

    private static void errorsHaveAnOrder() {
        Sentence.of("Changes and errors", "If several errors apply to a call, INVALID_ARGUMENT is returned rather than "
                + "NOT_POSSIBLE, NOT_POSSIBLE rather than LIMIT_REACHED, and LIMIT_REACHED rather than NOT_FOUND.");
        CommitteeBallots full = Check.twentyClauses();
        Check.due("addClause: range, possibility and limit", Check.INVALID, full.addClause(1, 10000));
        Check.due("addClause: possibility and limit", Check.IMPOSSIBLE, full.addClause(1, 5));
        Check.due("addMember: range and limit", Check.INVALID, Check.tenMembers().addMember(0));
        CommitteeBallots last = Check.onDay(10000);
        Check.due("pass: range and limit", Check.INVALID, last.pass(366));
        Check.due("vote: range and possibility", Check.INVALID, last.vote(0, 3));
        Check.due("comment: range and possibility", Check.INVALID, last.comment(0, 10, 1, 10000));
        Check.due("resolve: range and possibility", Check.INVALID, last.resolve(2, 1));
        Check.due("tally: range, and no ballot", Check.INVALID, last.tally(6));
        Check.due("enter: range and possibility", Check.INVALID, last.enter(3));
        CommitteeBallots comments = Check.withComments(30);
        Check.due("comment: range and limit", Check.INVALID, comments.comment(3, 10, 1, 101));
        Check.due("comment: possibility and limit", Check.IMPOSSIBLE, comments.comment(0, 10, 1, 100));
        Check.due("appeal: range and possibility", Check.INVALID, comments.appeal(0, 0, 6));
        CommitteeBallots twelfth = Check.inEdition(12);
        twelfth.appeal(0, 0, 1);
        twelfth.resolve(Check.MODIFY, 13);
        Check.due("open: limit", Check.LIMIT, twelfth.open());
        Check.due("change: range, and not so many", Check.INVALID, twelfth.change(2, 1, 3));
        Check.due("told: range, and not resolved", Check.INVALID, comments.told(30, 5));
        Check.due("fault: range, and no fault", Check.INVALID, comments.fault(2));
    }

    private static void errorsChangeNothing() {
        Sentence.of("Changes and errors", "A call that returns an error changes nothing.");
        Supplier<CommitteeBallots> pending = () -> Check.pending(10, 20);
        Check.refused("addMember", Check.INVALID, pending, x -> x.addMember(10));
        Check.refused("addClause", Check.IMPOSSIBLE, pending, x -> x.addClause(40, 1));
        Check.refused("set", Check.INVALID, pending, x -> x.set(4, 6));
        Check.refused("open", Check.IMPOSSIBLE, pending, CommitteeBallots::open);
        Check.refused("vote", Check.IMPOSSIBLE, pending, x -> x.vote(0, Check.DISAPPROVE));
        Check.refused("pass", Check.INVALID, pending, x -> x.pass(0));
        Check.refused("comment", Check.IMPOSSIBLE, pending, x -> x.comment(0, 10, 1, 102));
        Check.refused("resolve", Check.INVALID, pending, x -> x.resolve(Check.ACCEPT, 1));
        Check.refused("appeal", Check.IMPOSSIBLE, pending, x -> x.appeal(0, 0, 7));
        Check.refused("undo", Check.IMPOSSIBLE, CommitteeBallots::new, CommitteeBallots::undo);
        Check.refused("type", Check.INVALID, pending, x -> x.type(127));
        Check.refused("enter", Check.IMPOSSIBLE, pending, x -> x.enter(0));
        Supplier<CommitteeBallots> faulty = () -> {
            CommitteeBallots x = textInBallot();
            x.type(';');
            return x;
        };
        Check.refused("enter with a fault behind three comments", Check.IMPOSSIBLE, faulty, x -> x.enter(0));
    }

    private static void noSuchNumberIsInvalid() {
        Sentence.of("Changes and errors", "If there is no member, clause or comment with a certain number, this is "
                + "INVALID_ARGUMENT.");
        CommitteeBallots x = Check.withComments(1);
        for (int member : new int[] {-1, 3}) {
            Check.due("member", Check.INVALID, x.member(member, 0));
            Check.due("vote", Check.INVALID, x.vote(member, 0));
            Check.due("comment", Check.INVALID, x.comment(member, 10, 1, 1));
            Check.due("appeal", Check.INVALID, x.appeal(0, member, 7));
            Check.due("enter", Check.INVALID, x.enter(member));
        }
        for (int clause : new int[] {-1, 0, 9, 11, 99, 100}) {
            Check.due("value", Check.INVALID, x.value(clause));
            Check.due("valueIn", Check.INVALID, x.valueIn(clause, 1));
            Check.due("comment", Check.INVALID, x.comment(0, clause, 1, 1));
        }
        for (int comment : new int[] {-1, 1, 30}) {
            Check.due("told", Check.INVALID, x.told(comment, 0));
            Check.due("appeal", Check.INVALID, x.appeal(comment, 0, 7));
        }
    }

    private static void constants() {
        Sentence.of("Changes and errors", "The constants:");
        Check.holds("are four numbers", CommitteeBallots.INVALID_ARGUMENT + CommitteeBallots.NOT_POSSIBLE
                + CommitteeBallots.LIMIT_REACHED + CommitteeBallots.NOT_FOUND == -10);
        constant("`INVALID_ARGUMENT = -1`: An argument is out of its range, or there is no such member, clause or "
                + "comment.", -1, CommitteeBallots.INVALID_ARGUMENT, new CommitteeBallots().member(0, 0));
        constant("`NOT_POSSIBLE = -2`: The call is not possible in the present state.", -2,
                CommitteeBallots.NOT_POSSIBLE, new CommitteeBallots().open());
        constant("`LIMIT_REACHED = -3`: A fixed limit has been reached.", -3,
                CommitteeBallots.LIMIT_REACHED, Check.tenMembers().addMember(1));
        constant("`NOT_FOUND = -4`: There is no such value.", -4,
                CommitteeBallots.NOT_FOUND, new CommitteeBallots().clause(0));
    }

    private static void constant(String words, int due, int constant, int answer) {
        Sentence.of("Changes and errors", words);
        Check.due("the constant", due, constant);
        Check.due("an answer", due, answer);
    }
}
