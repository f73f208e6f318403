import java.util.Arrays;

/** Ballots of a standards committee, as ../shared/DOC.md promises them. */
public final class CommitteeBallots {
    /** An argument is out of its range, or there is no such member, clause or comment. */
    public static final int INVALID_ARGUMENT = -1;
    /** The call is not possible in the present state. */
    public static final int NOT_POSSIBLE = -2;
    /** A fixed limit has been reached. */
    public static final int LIMIT_REACHED = -3;
    /** There is no such value. */
    public static final int NOT_FOUND = -4;

    private static final int MAX_MEMBERS = 10;
    private static final int MAX_WEIGHT = 9;
    private static final int MAX_CLAUSES = 20;
    private static final int MAX_CLAUSE_NUMBER = 99;
    private static final int MAX_VALUE = 9999;
    private static final int MAX_EDITIONS = 12;
    private static final int MAX_COMMENTS = 30;
    private static final int MAX_STATES = 4;
    private static final int MAX_TEXT = 80;
    private static final int MAX_DAYS_AT_ONCE = 365;
    private static final int LAST_DAY = 10000;

    // The settings, by their numbers, and their ranges.
    private static final int QUORUM = 0;
    private static final int APPROVAL = 1;
    private static final int BALLOT_DAYS = 2;
    private static final int APPEAL_DAYS = 3;
    private static final int LAPSE = 4;
    private static final int SETTINGS = 5;
    private static final int[] FIRST_SETTINGS = {50, 67, 30, 14, 2};
    private static final int[] LEAST_SETTINGS = {1, 1, 1, 0, 1};
    private static final int[] GREATEST_SETTINGS = {100, 100, 60, 60, 5};

    private static final int NO_VOTE = -1;
    private static final int APPROVE = 0;
    private static final int DISAPPROVE = 1;
    private static final int ABSTAIN = 2;

    // The sums over the votes, by their numbers.
    private static final int ACTIVE = 0;
    private static final int RETURNED = 1;
    private static final int YES = 2;
    private static final int NO = 3;
    private static final int ABSTAINED = 4;
    private static final int CARRIED = 5;
    private static final int SUMS = 6;

    private static final int EDITORIAL = 0;
    private static final int TECHNICAL = 1;

    private static final int ACCEPT = 0;
    private static final int MODIFY = 1;
    private static final int REJECT = 2;

    // Where a comment stands; a decision leads to ACCEPTED + decision.
    private static final int IN_OPEN_BALLOT = 0;
    private static final int PENDING = 1;
    private static final int ACCEPTED = 2;
    private static final int MODIFIED = 3;

    // The reasons of a fault of the text.
    private static final int NO_FAULT = 0;
    private static final int BAD_FORM = 1;
    private static final int NO_CLAUSE = 2;
    private static final int SAME_VALUE = 3;
    private static final int NO_ROOM = 4;

    private static final int NONE = -1;

    private final State now = new State();
    private final History history = new History();
    private final Text text = new Text();

    /** Creates a committee without members, with an empty document. */
    public CommitteeBallots() {
    }

    // ---- members and document

    /** Adds a member and answers its number. */
    public int addMember(int weight) {
        if (weight < 1 || weight > MAX_WEIGHT) {
            return INVALID_ARGUMENT;
        }
        if (now.members.size >= MAX_MEMBERS) {
            return LIMIT_REACHED;
        }
        history.keep(now);
        return now.members.append(weight);
    }

    /** Adds a clause and answers the number of clauses. */
    public int addClause(int clause, int value) {
        if (clause < 1 || clause > MAX_CLAUSE_NUMBER || !isValue(value)) {
            return INVALID_ARGUMENT;
        }
        if (now.ballot.number > 0 || now.document.find(clause) != NONE) {
            return NOT_POSSIBLE;
        }
        if (now.document.size >= MAX_CLAUSES) {
            return LIMIT_REACHED;
        }
        history.keep(now);
        now.document.insert(clause, value);
        return now.document.size;
    }

    /** Sets a setting and answers its previous value. */
    public int set(int what, int value) {
        if (what < 0 || what >= SETTINGS) {
            return INVALID_ARGUMENT;
        }
        if (value < LEAST_SETTINGS[what] || value > GREATEST_SETTINGS[what]) {
            return INVALID_ARGUMENT;
        }
        history.keep(now);
        int previous = now.settings[what];
        now.settings[what] = value;
        return previous;
    }

    /** Answers a property of a member. */
    public int member(int member, int what) {
        if (!now.members.has(member)) {
            return INVALID_ARGUMENT;
        }
        switch (what) {
            case 0:
                return now.members.weight[member];
            case 1:
                return now.members.misses[member];
            case 2:
                return now.isLapsed(member) ? 1 : 0;
            case 3:
                return now.members.hasVoted(member) ? now.members.given[member] : NOT_FOUND;
            case 4:
                return now.comments.numberOf(member);
            case 5:
                return now.members.ballotsVoted[member];
            default:
                return INVALID_ARGUMENT;
        }
    }

    /** Answers the value of a clause now. */
    public int value(int clause) {
        int place = now.document.find(clause);
        return place == NONE ? INVALID_ARGUMENT : now.document.present[place];
    }

    /** Answers the value that a clause had in an edition. */
    public int valueIn(int clause, int edition) {
        int place = now.document.find(clause);
        if (place == NONE || !now.document.hasEdition(edition)) {
            return INVALID_ARGUMENT;
        }
        return now.document.inEdition[Document.slot(edition, place)];
    }

    /** Answers a clause by its place in ascending order. */
    public int clause(int index) {
        if (index < 0) {
            return INVALID_ARGUMENT;
        }
        return index < now.document.size ? now.document.number[index] : NOT_FOUND;
    }

    /** Answers a number about the committee. */
    public int count(int what) {
        if (what >= 20 && what < 20 + SETTINGS) {
            return now.settings[what - 20];
        }
        switch (what) {
            case 0:
                return now.members.size;
            case 1:
                return now.document.size;
            case 2:
                return now.document.edition;
            case 3:
                return now.today;
            case 4:
                return now.ballot.isOpen ? 1 : 0;
            case 5:
                return now.ballot.number;
            case 6:
                return now.comments.size;
            case 7:
                return now.comments.pending();
            case 8:
                return now.activeWeight();
            case 9:
                return history.size;
            case 10:
                return text.length;
            case 11:
                return now.ballot.isOpen ? now.ballot.endDay - now.today : 0;
            default:
                return INVALID_ARGUMENT;
        }
    }

    // ---- ballots

    /** Opens a ballot and answers how many were opened. */
    public int open() {
        if (now.ballot.isOpen || now.comments.pending() > 0 || now.document.size == 0) {
            return NOT_POSSIBLE;
        }
        if (now.document.edition >= MAX_EDITIONS) {
            return LIMIT_REACHED;
        }
        history.keep(now);
        now.openBallot();
        return now.ballot.number;
    }

    /** Votes and answers how many members have voted. */
    public int vote(int member, int vote) {
        if (!now.members.has(member) || vote < APPROVE || vote > ABSTAIN) {
            return INVALID_ARGUMENT;
        }
        if (!now.ballot.isOpen) {
            return NOT_POSSIBLE;
        }
        history.keep(now);
        now.members.given[member] = vote;
        return now.members.voters();
    }

    /** Lets days go by; answers 2 if a ballot ends and is carried, 1 if it is not, 0 if none ends. */
    public int pass(int days) {
        if (days < 1 || days > MAX_DAYS_AT_ONCE) {
            return INVALID_ARGUMENT;
        }
        if (now.today + days > LAST_DAY) {
            return LIMIT_REACHED;
        }
        history.keep(now);
        now.today += days;
        if (!now.ballot.isOpen || now.today < now.ballot.endDay) {
            return 0;
        }
        now.endBallot();
        return now.ballot.sums[CARRIED] == 1 ? 2 : 1;
    }

    /** Answers a sum over the votes of the latest ballot. */
    public int tally(int what) {
        if (what < 0 || what >= SUMS) {
            return INVALID_ARGUMENT;
        }
        if (now.ballot.number == 0) {
            return NOT_FOUND;
        }
        if (now.ballot.isOpen) {
            now.countVotes();
        }
        return now.ballot.sums[what];
    }

    /** Answers the least additional weight of yes with which the open ballot would be carried. */
    public int lacking() {
        if (!now.ballot.isOpen) {
            return NOT_POSSIBLE;
        }
        now.countVotes();
        int[] sums = now.ballot.sums;
        int approval = now.settings[APPROVAL];
        if (sums[ACTIVE] == 0 || (approval == 100 && sums[NO] > 0)) {
            return NOT_FOUND;
        }
        int forVoices = sums[YES] + sums[NO] > 0 ? 0 : 1;
        int forQuorum = dividedUp(now.settings[QUORUM] * sums[ACTIVE], 100) - sums[RETURNED];
        int forApproval = dividedUp(approval * sums[NO], 100 - approval) - sums[YES];
        return Math.max(forVoices, Math.max(forQuorum, forApproval));
    }

    // ---- comments

    /** Comments and answers the number of the comment. */
    public int comment(int member, int clause, int kind, int value) {
        int place = now.document.find(clause);
        if (!now.members.has(member) || place == NONE) {
            return INVALID_ARGUMENT;
        }
        if (kind < EDITORIAL || kind > TECHNICAL || !isValue(value)) {
            return INVALID_ARGUMENT;
        }
        if (!now.ballot.isOpen || now.document.present[place] == value) {
            return NOT_POSSIBLE;
        }
        if (now.comments.size >= MAX_COMMENTS) {
            return LIMIT_REACHED;
        }
        history.keep(now);
        return now.comments.append(member, place, kind, value);
    }

    /** Answers a property of a comment of the latest ballot. */
    public int told(int comment, int what) {
        if (!now.comments.has(comment)) {
            return INVALID_ARGUMENT;
        }
        switch (what) {
            case 0:
                return now.comments.member[comment];
            case 1:
                return now.document.number[now.comments.place[comment]];
            case 2:
                return now.comments.kind[comment];
            case 3:
                return now.comments.proposed[comment];
            case 4:
                return now.comments.standing[comment];
            case 5:
                return now.comments.isResolved(comment) ? now.comments.day[comment] : NOT_FOUND;
            case 6:
                return now.comments.gaveValue(comment) ? now.comments.gave[comment] : NOT_FOUND;
            default:
                return INVALID_ARGUMENT;
        }
    }

    /** Answers the pending comment that is resolved next. */
    public int next() {
        int comment = now.comments.firstPending(now.members);
        return comment == NONE ? NOT_FOUND : comment;
    }

    /** Resolves the pending comment that is next and answers how many remain. */
    public int resolve(int decision, int value) {
        if (decision < ACCEPT || decision > REJECT || !isValue(value)) {
            return INVALID_ARGUMENT;
        }
        if (decision != MODIFY && value != 0) {
            return INVALID_ARGUMENT;
        }
        int comment = now.comments.firstPending(now.members);
        if (comment == NONE) {
            return NOT_POSSIBLE;
        }
        int wanted = decision == ACCEPT ? now.comments.proposed[comment] : value;
        if (decision != REJECT && !now.document.canGet(now.comments.place[comment], wanted)) {
            return NOT_POSSIBLE;
        }
        history.keep(now);
        now.settle(comment, decision, wanted);
        return now.comments.pending();
    }

    /** Appeals against a resolution; answers 1 if the appeal succeeds, 0 if it fails. */
    public int appeal(int comment, int member, int set) {
        if (!now.comments.has(comment) || !now.members.has(member)) {
            return INVALID_ARGUMENT;
        }
        if (!now.members.isSet(set) || (set >> member & 1) == 0) {
            return INVALID_ARGUMENT;
        }
        if (now.ballot.isOpen || !now.comments.isResolved(comment)) {
            return NOT_POSSIBLE;
        }
        if (now.today > now.comments.day[comment] + now.settings[APPEAL_DAYS]) {
            return NOT_POSSIBLE;
        }
        history.keep(now);
        if (2 * now.activeWeightIn(set) <= now.activeWeight()) {
            return 0;
        }
        now.reopen(comment);
        return 1;
    }

    // ---- editions

    /** Counts the changes of an edition. */
    public int changes(int edition) {
        return now.document.hasEdition(edition) ? now.document.changesOf(edition) : INVALID_ARGUMENT;
    }

    /** Answers the clause, or the resolution, of a change of an edition. */
    public int change(int edition, int index, int what) {
        if (!now.document.hasEdition(edition) || index < 0 || what < 0 || what > 2) {
            return INVALID_ARGUMENT;
        }
        int place = now.document.placeOfChange(edition, index);
        if (place == NONE) {
            return NOT_FOUND;
        }
        switch (what) {
            case 0:
                return now.document.number[place];
            case 1:
                return now.document.ballotBehind[edition - 1];
            default:
                return now.document.commentBehind[Document.slot(edition, place)];
        }
    }

    /** Restores the latest state of the history and answers how many states are left. */
    public int undo() {
        if (history.size == 0) {
            return NOT_POSSIBLE;
        }
        history.restore(now);
        return history.size;
    }

    // ---- texts

    /** Appends a character to the text and answers its length. */
    public int type(int character) {
        if (character < 32 || character > 126) {
            return INVALID_ARGUMENT;
        }
        if (text.length >= MAX_TEXT) {
            return LIMIT_REACHED;
        }
        text.append((char) character);
        return text.length;
    }

    /** Empties the text and answers the length it had. */
    public int clearText() {
        int length = text.length;
        text.length = 0;
        return length;
    }

    /** Tells the position or the reason of the fault of the text. */
    public int fault(int what) {
        if (what < 0 || what > 1) {
            return INVALID_ARGUMENT;
        }
        int reason = firstFault();
        if (reason == NO_FAULT) {
            return NOT_FOUND;
        }
        return what == 0 ? text.start : reason;
    }

    /** Makes all comments of the text for a member and answers how many there are. */
    public int enter(int member) {
        if (!now.members.has(member)) {
            return INVALID_ARGUMENT;
        }
        if (!now.ballot.isOpen || firstFault() != NO_FAULT) {
            return NOT_POSSIBLE;
        }
        history.keep(now);
        int before = now.comments.size;
        text.rewind();
        for (int made = before; made < MAX_COMMENTS && text.readComment(); made++) {
            int place = now.document.find(text.clause);
            if (place != NONE) {
                now.comments.append(member, place, text.kind, text.proposed);
            }
        }
        return now.comments.size - before;
    }

    /** The reason of the first fault, which is that of the comment read last; NO_FAULT if there is none. */
    private int firstFault() {
        int room = MAX_COMMENTS - now.comments.size;
        text.rewind();
        for (int ahead = 0; ahead < MAX_TEXT && !text.isAtEnd(); ahead++) {
            if (!text.readComment()) {
                return BAD_FORM;
            }
            int place = now.document.find(text.clause);
            if (place == NONE) {
                return NO_CLAUSE;
            }
            if (now.document.present[place] == text.proposed) {
                return SAME_VALUE;
            }
            if (ahead >= room) {
                return NO_ROOM;
            }
        }
        return NO_FAULT;
    }

    private static boolean isValue(int value) {
        return value >= 0 && value <= MAX_VALUE;
    }

    /** A quotient rounded up; 0 for a divisor that is not positive. */
    private static int dividedUp(int number, int divisor) {
        return divisor < 1 ? 0 : (number + divisor - 1) / divisor;
    }

    private static void copyAll(int[] from, int[] to) {
        System.arraycopy(from, 0, to, 0, Math.min(from.length, to.length));
    }

    /** The members, with their votes in the latest ballot. */
    private static final class Members {
        final int[] weight = new int[MAX_MEMBERS];
        final int[] misses = new int[MAX_MEMBERS];
        final int[] given = new int[MAX_MEMBERS];
        final int[] ballotsVoted = new int[MAX_MEMBERS];
        int size;

        void copyFrom(Members other) {
            copyAll(other.weight, weight);
            copyAll(other.misses, misses);
            copyAll(other.given, given);
            copyAll(other.ballotsVoted, ballotsVoted);
            size = other.size;
        }

        boolean has(int member) {
            return member >= 0 && member < size;
        }

        boolean hasVoted(int member) {
            return given[member] != NO_VOTE;
        }

        boolean isSet(int set) {
            return set >= 0 && set < 1 << size;
        }

        int append(int newWeight) {
            if (size >= MAX_MEMBERS) {
                return NONE;
            }
            weight[size] = newWeight;
            misses[size] = 0;
            given[size] = NO_VOTE;
            ballotsVoted[size] = 0;
            size++;
            return size - 1;
        }

        int voters() {
            int sum = 0;
            for (int member = 0; member < size; member++) {
                if (hasVoted(member)) {
                    sum++;
                }
            }
            return sum;
        }

        /** Notes who has voted and who has missed the ballot that ends. */
        void noteMisses() {
            for (int member = 0; member < size; member++) {
                if (hasVoted(member)) {
                    misses[member] = 0;
                    ballotsVoted[member]++;
                } else {
                    misses[member]++;
                }
            }
        }
    }

    /** The clauses in ascending order, their values, and what each edition says. */
    private static final class Document {
        final int[] number = new int[MAX_CLAUSES];
        final int[] present = new int[MAX_CLAUSES];
        final int[] atOpening = new int[MAX_CLAUSES];
        final int[] ballotBehind = new int[MAX_EDITIONS];
        // A row of all clauses for each edition: see slot.
        final int[] inEdition = new int[MAX_EDITIONS * MAX_CLAUSES];
        final int[] commentBehind = new int[MAX_EDITIONS * MAX_CLAUSES];
        int size;
        int edition = 1;

        void copyFrom(Document other) {
            copyAll(other.number, number);
            copyAll(other.present, present);
            copyAll(other.atOpening, atOpening);
            copyAll(other.ballotBehind, ballotBehind);
            copyAll(other.inEdition, inEdition);
            copyAll(other.commentBehind, commentBehind);
            size = other.size;
            edition = other.edition;
        }

        static int slot(int edition, int place) {
            return (edition - 1) * MAX_CLAUSES + place;
        }

        boolean hasEdition(int wanted) {
            return wanted >= 1 && wanted <= edition;
        }

        /** The place of a clause, or NONE. */
        int find(int clause) {
            for (int place = 0; place < size; place++) {
                if (number[place] == clause) {
                    return place;
                }
            }
            return NONE;
        }

        /** Puts a clause in its place; only the first edition can be there yet. */
        void insert(int clause, int value) {
            if (size >= MAX_CLAUSES) {
                return;
            }
            int place = size;
            for (; place > 0 && number[place - 1] > clause; place--) {
                number[place] = number[place - 1];
                present[place] = present[place - 1];
                inEdition[slot(1, place)] = inEdition[slot(1, place - 1)];
            }
            number[place] = clause;
            present[place] = value;
            inEdition[slot(1, place)] = value;
            size++;
        }

        /** Whether a resolution can give a clause a value: a changed clause keeps its change. */
        boolean canGet(int place, int value) {
            return present[place] == atOpening[place] || present[place] == value;
        }

        /** Whether some clause has a value other than in the present edition. */
        boolean isChanged() {
            for (int place = 0; place < size; place++) {
                if (present[place] != inEdition[slot(edition, place)]) {
                    return true;
                }
            }
            return false;
        }

        boolean differs(int later, int place) {
            return later > 1 && inEdition[slot(later, place)] != inEdition[slot(later - 1, place)];
        }

        int changesOf(int later) {
            int sum = 0;
            for (int place = 0; place < size; place++) {
                if (differs(later, place)) {
                    sum++;
                }
            }
            return sum;
        }

        /** The place of the clause of a change by its index, or NONE. */
        int placeOfChange(int later, int index) {
            int ahead = 0;
            for (int place = 0; place < size; place++) {
                if (differs(later, place)) {
                    if (ahead == index) {
                        return place;
                    }
                    ahead++;
                }
            }
            return NONE;
        }
    }

    /** The latest ballot. */
    private static final class Ballot {
        final int[] sums = new int[SUMS];
        boolean isOpen;
        boolean broughtEdition;
        int number;
        int endDay;

        void copyFrom(Ballot other) {
            copyAll(other.sums, sums);
            isOpen = other.isOpen;
            broughtEdition = other.broughtEdition;
            number = other.number;
            endDay = other.endDay;
        }
    }

    /** The comments of the latest ballot, by their numbers. */
    private static final class Comments {
        final int[] member = new int[MAX_COMMENTS];
        final int[] place = new int[MAX_COMMENTS];
        final int[] kind = new int[MAX_COMMENTS];
        final int[] proposed = new int[MAX_COMMENTS];
        final int[] standing = new int[MAX_COMMENTS];
        final int[] day = new int[MAX_COMMENTS];
        final int[] gave = new int[MAX_COMMENTS];
        // Which resolution of the ballot its latest one was: several can fall on one day.
        final int[] turn = new int[MAX_COMMENTS];
        int size;
        int turns;

        void copyFrom(Comments other) {
            copyAll(other.member, member);
            copyAll(other.place, place);
            copyAll(other.kind, kind);
            copyAll(other.proposed, proposed);
            copyAll(other.standing, standing);
            copyAll(other.day, day);
            copyAll(other.gave, gave);
            copyAll(other.turn, turn);
            size = other.size;
            turns = other.turns;
        }

        boolean has(int comment) {
            return comment >= 0 && comment < size;
        }

        boolean isResolved(int comment) {
            return standing[comment] >= ACCEPTED;
        }

        boolean gaveValue(int comment) {
            return standing[comment] == ACCEPTED || standing[comment] == MODIFIED;
        }

        int append(int itsMember, int itsPlace, int itsKind, int value) {
            if (size >= MAX_COMMENTS) {
                return NONE;
            }
            member[size] = itsMember;
            place[size] = itsPlace;
            kind[size] = itsKind;
            proposed[size] = value;
            standing[size] = IN_OPEN_BALLOT;
            size++;
            return size - 1;
        }

        void makeAllPending() {
            for (int comment = 0; comment < size; comment++) {
                standing[comment] = PENDING;
            }
        }

        int pending() {
            int sum = 0;
            for (int comment = 0; comment < size; comment++) {
                if (standing[comment] == PENDING) {
                    sum++;
                }
            }
            return sum;
        }

        int numberOf(int itsMember) {
            int sum = 0;
            for (int comment = 0; comment < size; comment++) {
                if (member[comment] == itsMember) {
                    sum++;
                }
            }
            return sum;
        }

        boolean hasTechnicalOf(int itsMember) {
            for (int comment = 0; comment < size; comment++) {
                if (member[comment] == itsMember && kind[comment] == TECHNICAL) {
                    return true;
                }
            }
            return false;
        }

        /** The pending comment of the first rank, or NONE. */
        int firstPending(Members members) {
            int first = NONE;
            for (int comment = 0; comment < size; comment++) {
                if (standing[comment] == PENDING
                        && (first == NONE || isAhead(comment, first, members))) {
                    first = comment;
                }
            }
            return first;
        }

        /** Whether a comment ranks ahead of one with a lower number. */
        private boolean isAhead(int comment, int lower, Members members) {
            if (kind[comment] != kind[lower]) {
                return kind[comment] == TECHNICAL;
            }
            if (place[comment] != place[lower]) {
                return place[comment] < place[lower];
            }
            return members.weight[member[comment]] > members.weight[member[lower]];
        }

        void resolveAs(int comment, int decision, int value, int today) {
            standing[comment] = ACCEPTED + decision;
            day[comment] = today;
            gave[comment] = value;
            turn[comment] = turns;
            turns++;
        }

        /** Of the standing comments that gave a clause a value the one resolved first, or NONE. */
        int firstBehind(int itsPlace, int value) {
            int first = NONE;
            for (int comment = 0; comment < size; comment++) {
                if (place[comment] == itsPlace && gaveValue(comment) && gave[comment] == value
                        && (first == NONE || turn[comment] < turn[first])) {
                    first = comment;
                }
            }
            return first;
        }
    }

    /** Everything that a change records: all but the text. */
    private static final class State {
        final Members members = new Members();
        final Document document = new Document();
        final Ballot ballot = new Ballot();
        final Comments comments = new Comments();
        final int[] settings = FIRST_SETTINGS.clone();
        int today;

        void copyFrom(State other) {
            members.copyFrom(other.members);
            document.copyFrom(other.document);
            ballot.copyFrom(other.ballot);
            comments.copyFrom(other.comments);
            copyAll(other.settings, settings);
            today = other.today;
        }

        boolean isLapsed(int member) {
            return members.misses[member] >= settings[LAPSE];
        }

        int activeWeight() {
            return activeWeightIn((1 << members.size) - 1);
        }

        /** The weight of the members of a set who are not lapsed. */
        int activeWeightIn(int set) {
            int sum = 0;
            for (int member = 0; member < members.size; member++) {
                if ((set >> member & 1) == 1 && !isLapsed(member)) {
                    sum += members.weight[member];
                }
            }
            return sum;
        }

        void openBallot() {
            ballot.isOpen = true;
            ballot.broughtEdition = false;
            ballot.number++;
            ballot.endDay = today + settings[BALLOT_DAYS];
            comments.size = 0;
            comments.turns = 0;
            Arrays.fill(members.given, NO_VOTE);
            copyAll(document.present, document.atOpening);
        }

        /** Counts the votes as they count if the ballot ends now. */
        void countVotes() {
            int[] sums = ballot.sums;
            Arrays.fill(sums, 0);
            for (int member = 0; member < members.size; member++) {
                if (!isLapsed(member)) {
                    sums[ACTIVE] += members.weight[member];
                    if (members.hasVoted(member)) {
                        sums[RETURNED] += members.weight[member];
                        sums[sumFor(member)] += members.weight[member];
                    }
                }
            }
            sums[CARRIED] = isCarriedBy(sums) ? 1 : 0;
        }

        /** The sum that the vote of a member counts to. */
        private int sumFor(int member) {
            int vote = members.given[member];
            if (vote == APPROVE) {
                return YES;
            }
            return vote == DISAPPROVE && comments.hasTechnicalOf(member) ? NO : ABSTAINED;
        }

        private boolean isCarriedBy(int[] sums) {
            int voices = sums[YES] + sums[NO];
            return sums[ACTIVE] > 0 && voices > 0
                    && sums[RETURNED] * 100 >= settings[QUORUM] * sums[ACTIVE]
                    && sums[YES] * 100 >= settings[APPROVAL] * voices;
        }

        void endBallot() {
            // The misses before this end tell who is lapsed, so they grow last.
            countVotes();
            members.noteMisses();
            ballot.isOpen = false;
            if (ballot.sums[CARRIED] == 1) {
                comments.makeAllPending();
            } else {
                comments.size = 0;
            }
        }

        /** Resolves a pending comment; behind the last one the edition may come. */
        void settle(int comment, int decision, int value) {
            comments.resolveAs(comment, decision, value, today);
            if (comments.gaveValue(comment)) {
                document.present[comments.place[comment]] = value;
            }
            if (comments.pending() == 0 && document.isChanged()) {
                bringEdition();
            }
        }

        private void bringEdition() {
            if (document.edition >= MAX_EDITIONS) {
                return;
            }
            document.edition++;
            document.ballotBehind[document.edition - 1] = ballot.number;
            ballot.broughtEdition = true;
            for (int place = 0; place < document.size; place++) {
                int slot = Document.slot(document.edition, place);
                int value = document.present[place];
                document.inEdition[slot] = value;
                document.commentBehind[slot] = comments.firstBehind(place, value);
            }
        }

        /** Makes a resolved comment pending again, after an appeal that succeeds. */
        void reopen(int comment) {
            boolean tookBack = comments.gaveValue(comment);
            int place = comments.place[comment];
            comments.standing[comment] = PENDING;
            if (tookBack && comments.firstBehind(place, document.present[place]) == NONE) {
                document.present[place] = document.atOpening[place];
            }
            if (ballot.broughtEdition) {
                ballot.broughtEdition = false;
                document.edition--;
            }
        }
    }

    /** The latest states before changes, kept in rows that are used again in turn. */
    private static final class History {
        final State[] states = new State[MAX_STATES];
        int oldest;
        int size;

        History() {
            for (int slot = 0; slot < MAX_STATES; slot++) {
                states[slot] = new State();
            }
        }

        /** Keeps a state, in the place of the oldest one if there is no other. */
        void keep(State state) {
            states[(oldest + size) % MAX_STATES].copyFrom(state);
            if (size < MAX_STATES) {
                size++;
            } else {
                oldest = (oldest + 1) % MAX_STATES;
            }
        }

        /** Takes the latest state out of the history. */
        void restore(State state) {
            if (size > 0) {
                size--;
                state.copyFrom(states[(oldest + size) % MAX_STATES]);
            }
        }
    }

    /** The text as it was typed, and the comment of it that was read last. */
    private static final class Text {
        final char[] signs = new char[MAX_TEXT];
        int length;
        int start;
        int end;
        int clause;
        int kind;
        int proposed;

        void append(char sign) {
            if (length < MAX_TEXT) {
                signs[length] = sign;
                length++;
            }
        }

        void rewind() {
            start = 0;
            end = 0;
        }

        boolean isAtEnd() {
            return end >= length;
        }

        /** Reads the comment behind the one read last; false if it is not of the form. */
        boolean readComment() {
            start = end;
            int digits = digitsAt(start, 2);
            int mark = start + digits;
            clause = numberAt(start, digits);
            kind = signAt(mark) == 't' ? TECHNICAL : EDITORIAL;
            boolean hasKind = signAt(mark) == 't' || signAt(mark) == 'e';
            if (digits == 0 || !hasKind || signAt(mark + 1) != '=') {
                return false;
            }
            digits = digitsAt(mark + 2, 4);
            proposed = numberAt(mark + 2, digits);
            end = mark + 2 + digits + 1;
            return digits > 0 && signAt(end - 1) == ';';
        }

        /** The sign at a position, 0 behind the text. */
        private char signAt(int position) {
            return position >= 0 && position < length ? signs[position] : 0;
        }

        /** How many digits stand at a position, counted up to a most. */
        private int digitsAt(int position, int most) {
            for (int digits = 0; digits < most; digits++) {
                char sign = signAt(position + digits);
                if (sign < '0' || sign > '9') {
                    return digits;
                }
            }
            return most;
        }

        private int numberAt(int position, int digits) {
            int number = 0;
            for (int digit = 0; digit < digits; digit++) {
                number = number * 10 + signAt(position + digit) - '0';
            }
            return number;
        }
    }
}
