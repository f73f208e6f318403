import java.util.ArrayDeque;
import java.util.ArrayList;
import java.util.Comparator;
import java.util.Deque;
import java.util.List;
import java.util.Map;
import java.util.Objects;
import java.util.TreeMap;
import java.util.regex.Matcher;
import java.util.regex.Pattern;

/**
 * The document once more, by other means: lists, sorting, patterns and trials in
 * place of the class's rows, so that the two can be compared on long random runs.
 */
final class Model {
    private static final int INVALID = -1;
    private static final int IMPOSSIBLE = -2;
    private static final int LIMIT = -3;
    private static final int NOT_FOUND = -4;
    private static final Pattern FORM = Pattern.compile("([0-9]{1,2})([te])=([0-9]{1,4});");
    private static final int[][] RANGES = {{1, 100}, {1, 100}, {1, 60}, {0, 60}, {1, 5}};

    private static final class Member {
        int weight;
        int misses;
        Integer vote;
        int ballots;

        Member copy() {
            Member copy = new Member();
            copy.weight = weight;
            copy.misses = misses;
            copy.vote = vote;
            copy.ballots = ballots;
            return copy;
        }
    }

    private static final class Comment {
        int number;
        int member;
        int clause;
        int kind;
        int proposed;
        int standing;
        Integer day;
        Integer gave;
        int turn;

        Comment copy() {
            Comment copy = new Comment();
            copy.number = number;
            copy.member = member;
            copy.clause = clause;
            copy.kind = kind;
            copy.proposed = proposed;
            copy.standing = standing;
            copy.day = day;
            copy.gave = gave;
            copy.turn = turn;
            return copy;
        }
    }

    /** What an edition says, the ballot that carried it, and the comments of that ballot. */
    private record Edition(TreeMap<Integer, Integer> values, int ballot, List<Comment> comments) {
    }

    private List<Member> members = new ArrayList<>();
    private TreeMap<Integer, Integer> values = new TreeMap<>();
    private TreeMap<Integer, Integer> beginning = new TreeMap<>();
    private List<Edition> editions = new ArrayList<>();
    private List<Comment> comments = new ArrayList<>();
    private int[] settings = {50, 67, 30, 14, 2};
    private int today;
    private int ballots;
    private int turns;
    private Integer openedOn;
    private int daysOfBallot;
    private int[] counted;
    private boolean brought;
    private final Deque<Model> history = new ArrayDeque<>();
    private String text = "";

    private void take(Model other) {
        members = new ArrayList<>();
        other.members.forEach(member -> members.add(member.copy()));
        comments = new ArrayList<>();
        other.comments.forEach(comment -> comments.add(comment.copy()));
        values = new TreeMap<>(other.values);
        beginning = new TreeMap<>(other.beginning);
        editions = new ArrayList<>(other.editions);
        settings = other.settings.clone();
        today = other.today;
        ballots = other.ballots;
        turns = other.turns;
        openedOn = other.openedOn;
        daysOfBallot = other.daysOfBallot;
        counted = other.counted == null ? null : other.counted.clone();
        brought = other.brought;
    }

    private void record() {
        Model state = new Model();
        state.take(this);
        history.addLast(state);
        if (history.size() == 5) {
            history.removeFirst();
        }
    }

    private static boolean in(int number, int least, int greatest) {
        return number >= least && number <= greatest;
    }

    private boolean isMember(int member) {
        return in(member, 0, members.size() - 1);
    }

    private boolean isLapsed(Member member) {
        return member.misses >= settings[4];
    }

    private int edition() {
        return Math.max(1, editions.size());
    }

    private TreeMap<Integer, Integer> valuesIn(int edition) {
        return editions.isEmpty() ? values : editions.get(edition - 1).values;
    }

    private int activeWeight() {
        return members.stream().filter(member -> !isLapsed(member)).mapToInt(member -> member.weight).sum();
    }

    private List<Comment> pending() {
        Comparator<Comment> ranks = Comparator.<Comment>comparingInt(comment -> -comment.kind)
                .thenComparingInt(comment -> comment.clause)
                .thenComparingInt(comment -> -members.get(comment.member).weight)
                .thenComparingInt(comment -> comment.number);
        return comments.stream().filter(comment -> comment.standing == 1).sorted(ranks).toList();
    }

    int addMember(int weight) {
        if (!in(weight, 1, 9)) {
            return INVALID;
        }
        if (members.size() == 10) {
            return LIMIT;
        }
        record();
        Member member = new Member();
        member.weight = weight;
        members.add(member);
        return members.size() - 1;
    }

    int addClause(int clause, int value) {
        if (!in(clause, 1, 99) || !in(value, 0, 9999)) {
            return INVALID;
        }
        if (ballots > 0 || values.containsKey(clause)) {
            return IMPOSSIBLE;
        }
        if (values.size() == 20) {
            return LIMIT;
        }
        record();
        values.put(clause, value);
        return values.size();
    }

    int set(int what, int value) {
        if (!in(what, 0, 4) || !in(value, RANGES[what][0], RANGES[what][1])) {
            return INVALID;
        }
        record();
        int previous = settings[what];
        settings[what] = value;
        return previous;
    }

    int member(int number, int what) {
        if (!isMember(number) || !in(what, 0, 5)) {
            return INVALID;
        }
        Member member = members.get(number);
        int own = (int) comments.stream().filter(comment -> comment.member == number).count();
        int vote = Objects.requireNonNullElse(member.vote, NOT_FOUND);
        return new int[] {member.weight, member.misses, isLapsed(member) ? 1 : 0, vote, own, member.ballots}[what];
    }

    int value(int clause) {
        return values.getOrDefault(clause, INVALID);
    }

    int valueIn(int clause, int edition) {
        return in(edition, 1, edition()) ? valuesIn(edition).getOrDefault(clause, INVALID) : INVALID;
    }

    int clause(int index) {
        if (index < 0) {
            return INVALID;
        }
        return values.keySet().stream().skip(index).findFirst().orElse(NOT_FOUND);
    }

    int count(int what) {
        if (in(what, 20, 24)) {
            return settings[what - 20];
        }
        if (!in(what, 0, 11)) {
            return INVALID;
        }
        int left = openedOn == null ? 0 : openedOn + daysOfBallot - today;
        return new int[] {members.size(), values.size(), edition(), today, openedOn == null ? 0 : 1, ballots,
            comments.size(), pending().size(), activeWeight(), history.size(), text.length(), left}[what];
    }

    int open() {
        if (openedOn != null || !pending().isEmpty() || values.isEmpty()) {
            return IMPOSSIBLE;
        }
        if (edition() == 12) {
            return LIMIT;
        }
        record();
        if (editions.isEmpty()) {
            editions.add(new Edition(new TreeMap<>(values), 0, List.of()));
        }
        openedOn = today;
        daysOfBallot = settings[2];
        ballots++;
        brought = false;
        counted = null;
        comments.clear();
        beginning = new TreeMap<>(values);
        members.forEach(member -> member.vote = null);
        return ballots;
    }

    int vote(int member, int vote) {
        if (!isMember(member) || !in(vote, 0, 2)) {
            return INVALID;
        }
        if (openedOn == null) {
            return IMPOSSIBLE;
        }
        record();
        members.get(member).vote = vote;
        return (int) members.stream().filter(other -> other.vote != null).count();
    }

    int pass(int days) {
        if (!in(days, 1, 365)) {
            return INVALID;
        }
        if (today + days > 10000) {
            return LIMIT;
        }
        record();
        today += days;
        if (openedOn == null || today - openedOn < daysOfBallot) {
            return 0;
        }
        counted = sums();
        openedOn = null;
        for (Member member : members) {
            member.misses = member.vote == null ? member.misses + 1 : 0;
            member.ballots += member.vote == null ? 0 : 1;
        }
        if (counted[5] == 0) {
            comments.clear();
            return 1;
        }
        comments.forEach(comment -> comment.standing = 1);
        return 2;
    }

    /** The votes of the members who are not lapsed, as they would count if the ballot ended now. */
    private int[] sums() {
        int[] weights = new int[3];
        for (int number = 0; number < members.size(); number++) {
            Member member = members.get(number);
            int own = number;
            if (member.vote != null && !isLapsed(member)) {
                boolean technical = comments.stream().anyMatch(it -> it.member == own && it.kind == 1);
                weights[member.vote == 1 && !technical ? 2 : member.vote] += member.weight;
            }
        }
        int returned = weights[0] + weights[1] + weights[2];
        return new int[] {activeWeight(), returned, weights[0], weights[1], weights[2],
            isCarried(activeWeight(), returned, weights[0], weights[1]) ? 1 : 0};
    }

    private boolean isCarried(int active, int returned, int yes, int no) {
        return returned * 100 >= settings[0] * active && active > 0 && yes + no > 0
                && yes * 100 >= settings[1] * (yes + no);
    }

    int tally(int what) {
        if (!in(what, 0, 5)) {
            return INVALID;
        }
        if (ballots == 0) {
            return NOT_FOUND;
        }
        return (openedOn == null ? counted : sums())[what];
    }

    int lacking() {
        if (openedOn == null) {
            return IMPOSSIBLE;
        }
        int[] sums = sums();
        for (int more = 0; more < 10000; more++) {
            if (isCarried(sums[0], sums[1] + more, sums[2] + more, sums[3])) {
                return more;
            }
        }
        return NOT_FOUND;
    }

    int comment(int member, int clause, int kind, int value) {
        if (!isMember(member) || !values.containsKey(clause) || !in(kind, 0, 1) || !in(value, 0, 9999)) {
            return INVALID;
        }
        if (openedOn == null || values.get(clause) == value) {
            return IMPOSSIBLE;
        }
        if (comments.size() == 30) {
            return LIMIT;
        }
        record();
        add(member, clause, kind, value);
        return comments.size() - 1;
    }

    private void add(int member, int clause, int kind, int value) {
        Comment comment = new Comment();
        comment.number = comments.size();
        comment.member = member;
        comment.clause = clause;
        comment.kind = kind;
        comment.proposed = value;
        comments.add(comment);
    }

    int told(int number, int what) {
        if (!in(number, 0, comments.size() - 1) || !in(what, 0, 6)) {
            return INVALID;
        }
        Comment comment = comments.get(number);
        return new int[] {comment.member, comment.clause, comment.kind, comment.proposed, comment.standing,
            Objects.requireNonNullElse(comment.day, NOT_FOUND),
            Objects.requireNonNullElse(comment.gave, NOT_FOUND)}[what];
    }

    int next() {
        return pending().isEmpty() ? NOT_FOUND : pending().get(0).number;
    }

    int resolve(int decision, int value) {
        if (!in(decision, 0, 2) || !in(value, 0, 9999) || decision != 1 && value != 0) {
            return INVALID;
        }
        if (pending().isEmpty()) {
            return IMPOSSIBLE;
        }
        Comment comment = pending().get(0);
        int clause = comment.clause;
        int wanted = decision == 0 ? comment.proposed : decision == 1 ? value : values.get(clause);
        if (!values.get(clause).equals(beginning.get(clause)) && values.get(clause) != wanted) {
            return IMPOSSIBLE;
        }
        record();
        int number = comment.number;
        comments.get(number).standing = 2 + decision;
        comments.get(number).day = today;
        comments.get(number).gave = decision == 2 ? null : (Integer) wanted;
        comments.get(number).turn = turns++;
        values.put(clause, wanted);
        if (pending().isEmpty() && !values.equals(valuesIn(edition()))) {
            List<Comment> copies = new ArrayList<>();
            comments.forEach(other -> copies.add(other.copy()));
            editions.add(new Edition(new TreeMap<>(values), ballots, copies));
            brought = true;
        }
        return pending().size();
    }

    int appeal(int number, int member, int set) {
        if (!in(number, 0, comments.size() - 1) || !isMember(member)) {
            return INVALID;
        }
        String bits = new StringBuilder(Integer.toBinaryString(set)).reverse().toString();
        if (bits.lastIndexOf('1') >= members.size() || member >= bits.length() || bits.charAt(member) == '0') {
            return INVALID;
        }
        Comment comment = comments.get(number);
        if (openedOn != null || comment.day == null || today > comment.day + settings[3]) {
            return IMPOSSIBLE;
        }
        record();
        comment = comments.get(number);
        int sum = 0;
        for (int other = 0; other < members.size(); other++) {
            if (other < bits.length() && bits.charAt(other) == '1' && !isLapsed(members.get(other))) {
                sum += members.get(other).weight;
            }
        }
        if (2 * sum <= activeWeight()) {
            return 0;
        }
        int clause = comment.clause;
        boolean takesBack = comment.gave != null;
        comment.standing = 1;
        comment.day = null;
        comment.gave = null;
        boolean gaveAnother = comments.stream().anyMatch(other -> other.clause == clause && other.number != number
                && other.gave != null && other.gave.equals(values.get(clause)));
        if (takesBack && !gaveAnother) {
            values.put(clause, beginning.get(clause));
        }
        if (brought) {
            editions.remove(editions.size() - 1);
            brought = false;
        }
        return 1;
    }

    private List<Integer> changed(int edition) {
        if (edition == 1) {
            return List.of();
        }
        Map<Integer, Integer> before = valuesIn(edition - 1);
        return valuesIn(edition).entrySet().stream()
                .filter(entry -> !entry.getValue().equals(before.get(entry.getKey()))).map(Map.Entry::getKey).toList();
    }

    int changes(int edition) {
        return in(edition, 1, edition()) ? changed(edition).size() : INVALID;
    }

    int change(int edition, int index, int what) {
        if (!in(edition, 1, edition()) || index < 0 || !in(what, 0, 2)) {
            return INVALID;
        }
        if (index >= changed(edition).size()) {
            return NOT_FOUND;
        }
        int clause = changed(edition).get(index);
        Edition told = editions.get(edition - 1);
        int comment = told.comments.stream().filter(it -> it.clause == clause && it.gave != null)
                .filter(it -> it.gave.equals(told.values.get(clause)))
                .min(Comparator.comparingInt(it -> it.turn)).orElseThrow().number;
        return new int[] {clause, told.ballot, comment}[what];
    }

    int undo() {
        if (history.isEmpty()) {
            return IMPOSSIBLE;
        }
        take(history.removeLast());
        return history.size();
    }

    int type(int character) {
        if (!in(character, 32, 126)) {
            return INVALID;
        }
        if (text.length() == 80) {
            return LIMIT;
        }
        text += (char) character;
        return text.length();
    }

    int clearText() {
        int length = text.length();
        text = "";
        return length;
    }

    /** The position and the reason of the fault, or null. */
    private int[] findFault() {
        Matcher matcher = FORM.matcher(text);
        int ahead = comments.size();
        for (int at = 0; at < text.length(); at = matcher.end()) {
            matcher.region(at, text.length());
            if (!matcher.lookingAt()) {
                return new int[] {at, 1};
            }
            Integer value = values.get(Integer.parseInt(matcher.group(1)));
            if (value == null) {
                return new int[] {at, 2};
            }
            if (value == Integer.parseInt(matcher.group(3))) {
                return new int[] {at, 3};
            }
            ahead++;
            if (ahead > 30) {
                return new int[] {at, 4};
            }
        }
        return null;
    }

    int fault(int what) {
        if (!in(what, 0, 1)) {
            return INVALID;
        }
        int[] found = findFault();
        return found == null ? NOT_FOUND : found[what];
    }

    int enter(int member) {
        if (!isMember(member)) {
            return INVALID;
        }
        if (openedOn == null || findFault() != null) {
            return IMPOSSIBLE;
        }
        record();
        int made = 0;
        for (Matcher matcher = FORM.matcher(text); matcher.find(); made++) {
            int kind = matcher.group(2).equals("t") ? 1 : 0;
            add(member, Integer.parseInt(matcher.group(1)), kind, Integer.parseInt(matcher.group(3)));
        }
        return made;
    }
}
