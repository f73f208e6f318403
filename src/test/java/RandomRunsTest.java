import java.util.Random;

/** Long runs of random calls, made of the class and of the model alike: promises 1 to 26 together. */
public final class RandomRunsTest {
    private static final int RUNS = 1500;
    private static final int CALLS = 512;
    private static final int[] EDGES = {-1, 0, 1, 2, 9, 10, 20, 30, 99, 100, 9999, 10000, Integer.MIN_VALUE,
        Integer.MAX_VALUE};

    private final Random random;
    private final CommitteeBallots x = new CommitteeBallots();
    private final Model model = new Model();
    private final int clauses;
    private final int values;
    private final boolean isTalkative;
    private final boolean isLarge;
    private boolean isUndoing;
    private String call;

    private RandomRunsTest(int seed) {
        // Neighbouring seeds would begin with nearly the same numbers.
        random = new Random(seed * 0x9E3779B97F4A7C15L);
        isLarge = random.nextInt(8) == 0;
        clauses = isLarge ? 20 : 1 + random.nextInt(random.nextBoolean() ? 3 : 25);
        values = 2 + random.nextInt(4);
        isTalkative = random.nextInt(4) == 0;
    }

    public static void main(String[] args) {
        int[] reached = new int[13];
        for (int seed = 0; seed < RUNS; seed++) {
            RandomRunsTest run = new RandomRunsTest(seed);
            if (!run.agrees(seed)) {
                break;
            }
            reached[run.model.count(2)]++;
        }
        for (int edition = 1; edition <= 12; edition++) {
            Check.holds("some run ends in edition " + edition, reached[edition] > 0);
        }
        Check.end("RandomRunsTest");
    }

    private boolean agrees(int seed) {
        for (int number = 0; number < CALLS; number++) {
            // A run sets up its committee first, so that ballots have members and clauses.
            long answers = number < (isLarge ? 36 : 12) ? setUp(number) : anyCall();
            int got = (int) (answers >> 32);
            int want = (int) answers;
            Check.due("run " + seed + ", call " + number + ", " + call, want, got);
            if (got != want) {
                return false;
            }
        }
        return true;
    }

    /** Both answers in one number. */
    private long both(String name, int got, int want) {
        call = name;
        return (long) got << 32 | want & 0xffffffffL;
    }

    private long setUp(int number) {
        if (isLarge && number < 32) {
            return number < 11 ? addMember(1 + random.nextInt(9)) : addClause(number - 10, random.nextInt(values));
        }
        switch (number % 4) {
            case 0: return isLarge ? set(4, 5) : addMember(1 + random.nextInt(9));
            case 1: return isLarge ? set(0, 15) : addClause(1 + random.nextInt(clauses), random.nextInt(values));
            case 2: return set(2, 1 + random.nextInt(6));
            default: return set(random.nextInt(2), 1 + random.nextInt(100));
        }
    }

    private int edge() {
        return EDGES[random.nextInt(EDGES.length)];
    }

    /** Mostly a number below a bound, now and then one at an edge of some range. */
    private int below(int bound) {
        return random.nextInt(40) == 0 ? edge() : random.nextInt(Math.max(1, bound));
    }

    private int someMember() {
        return below(model.count(0));
    }

    private int someClause() {
        int clause = model.clause(random.nextInt(Math.max(1, model.count(1))));
        return random.nextInt(30) == 0 ? below(100) : clause;
    }

    private long anyCall() {
        if (random.nextInt(3) == 0) {
            return anyQuestion();
        }
        if (isUndoing && random.nextBoolean()) {
            return undo();
        }
        isUndoing = false;
        if (model.count(4) == 1) {
            return inBallot();
        }
        return model.count(7) > 0 && random.nextInt(6) > 0 ? whilePending() : otherChange();
    }

    private long inBallot() {
        if (isTalkative && random.nextInt(3) > 0) {
            return random.nextInt(4) > 0 ? comment(someMember(), someClause(), below(2), below(values)) : sign();
        }
        switch (random.nextInt(16)) {
            case 0: case 1: case 2: case 3: case 4: return vote(someMember(), below(10) % 4 / 2 * below(3));
            case 5: case 6: case 7: return comment(someMember(), someClause(), below(2), below(values));
            case 8: return sign();
            case 9: return enter(someMember());
            case 10: case 11: case 12: case 13: return pass(1 + below(3));
            default: return otherChange();
        }
    }

    private long whilePending() {
        switch (random.nextInt(8)) {
            case 0: return appealOfSome();
            case 1: return pass(1 + below(9));
            case 2: return sign();
            case 3: case 4: return resolve(1, below(values));
            case 5: return resolve(2, 0);
            default: return resolve(0, 0);
        }
    }

    private long otherChange() {
        switch (random.nextInt(20)) {
            case 0: return addMember(below(10));
            case 1: return addClause(below(clauses + 1), below(values));
            case 2: return set(below(5), below(random.nextBoolean() ? 6 : 101));
            case 3: return undo();
            case 4: case 5: case 6: return pass(random.nextInt(4) == 0 ? below(366) : 1 + below(9));
            case 7: case 8: case 9: case 10: case 11: return open();
            case 12: case 13: case 14: return appealOfSome();
            case 15: return resolve(below(3), below(values));
            case 16: return both("clearText()", x.clearText(), model.clearText());
            case 17: return comment(someMember(), someClause(), below(2), below(values));
            default: return sign();
        }
    }

    private long anyQuestion() {
        int first = below(12);
        int second = below(8);
        switch (random.nextInt(15)) {
            case 0: return both("member", x.member(first, second), model.member(first, second));
            case 1: return value(someClause());
            case 2: return valueIn(someClause(), below(model.count(2) + 2));
            case 3: return both("clause " + first, x.clause(first), model.clause(first));
            case 4: return both("count " + first, x.count(first), model.count(first));
            case 5: return both("setting", x.count(20 + second), model.count(20 + second));
            case 6: return both("tally " + second, x.tally(second), model.tally(second));
            case 7: return both("lacking", x.lacking(), model.lacking());
            case 8: case 9: return told(below(model.count(6) + 1), second);
            case 10: return both("next", x.next(), model.next());
            case 11: return changes(below(model.count(2) + 2));
            case 12: case 13: return change(below(model.count(2) + 2), below(4), second % 4);
            default: return both("fault", x.fault(second % 3), model.fault(second % 3));
        }
    }

    private long addMember(int weight) {
        return both("addMember " + weight, x.addMember(weight), model.addMember(weight));
    }

    private long addClause(int clause, int value) {
        return both("addClause " + clause, x.addClause(clause, value), model.addClause(clause, value));
    }

    private long set(int what, int value) {
        return both("set " + what + " " + value, x.set(what, value), model.set(what, value));
    }

    private long value(int clause) {
        return both("value " + clause, x.value(clause), model.value(clause));
    }

    private long valueIn(int clause, int edition) {
        return both("valueIn " + clause + " " + edition, x.valueIn(clause, edition), model.valueIn(clause, edition));
    }

    private long open() {
        return both("open", x.open(), model.open());
    }

    private long vote(int member, int vote) {
        return both("vote " + member + " " + vote, x.vote(member, vote), model.vote(member, vote));
    }

    private long pass(int days) {
        return both("pass " + days, x.pass(days), model.pass(days));
    }

    private long comment(int member, int clause, int kind, int value) {
        return both("comment", x.comment(member, clause, kind, value), model.comment(member, clause, kind, value));
    }

    private long told(int comment, int what) {
        return both("told " + comment + " " + what, x.told(comment, what), model.told(comment, what));
    }

    private long resolve(int decision, int value) {
        return both("resolve " + decision + " " + value, x.resolve(decision, value), model.resolve(decision, value));
    }

    private long appealOfSome() {
        int comment = below(model.count(6));
        int member = someMember();
        int set = random.nextInt(20) == 0 ? edge() : random.nextInt(1 << model.count(0)) | 1 << member;
        return both("appeal " + comment + " " + member + " " + set, x.appeal(comment, member, set),
                model.appeal(comment, member, set));
    }

    private long changes(int edition) {
        return both("changes " + edition, x.changes(edition), model.changes(edition));
    }

    private long change(int edition, int index, int what) {
        return both("change " + edition + " " + index + " " + what, x.change(edition, index, what),
                model.change(edition, index, what));
    }

    private long undo() {
        isUndoing = true;
        return both("undo", x.undo(), model.undo());
    }

    private long enter(int member) {
        return both("enter " + member, x.enter(member), model.enter(member));
    }

    /** Types a sign that mostly carries the text on to the form of a comment. */
    private long sign() {
        if (random.nextInt(60) == 0) {
            return typed(edge());
        }
        String signs = "0123456789te=;";
        int[] following = {'1' + random.nextInt(Math.min(9, clauses)), random.nextBoolean() ? 't' : 'e', '=',
            '0' + random.nextInt(values), ';'};
        int place = model.count(10) % following.length;
        boolean astray = random.nextInt(50) == 0;
        return typed(astray ? signs.charAt(random.nextInt(signs.length())) : following[place]);
    }

    private long typed(int character) {
        return both("type " + character, x.type(character), model.type(character));
    }
}
