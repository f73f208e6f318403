/** All that a committee tells of itself. */
final class Facts {
    private Facts() {
    }

    /** With its text and the size of its history. */
    static String all(CommitteeBallots x) {
        StringBuilder facts = new StringBuilder(of(x));
        tell(facts, x.count(9));
        tell(facts, x.count(10));
        tell(facts, x.fault(0));
        tell(facts, x.fault(1));
        return facts.toString();
    }

    /** Without them, as they do not come back by undo. */
    static String of(CommitteeBallots x) {
        StringBuilder facts = new StringBuilder();
        for (int what = 0; what <= 24; what++) {
            if (what != 9 && what != 10) {
                tell(facts, x.count(what));
            }
        }
        for (int member = 0; member < x.count(0); member++) {
            for (int what = 0; what < 6; what++) {
                tell(facts, x.member(member, what));
            }
        }
        for (int comment = 0; comment < x.count(6); comment++) {
            for (int what = 0; what < 7; what++) {
                tell(facts, x.told(comment, what));
            }
        }
        for (int what = 0; what < 6; what++) {
            tell(facts, x.tally(what));
        }
        tell(facts, x.lacking());
        tell(facts, x.next());
        tellDocument(facts, x);
        return facts.toString();
    }

    private static void tellDocument(StringBuilder facts, CommitteeBallots x) {
        for (int index = 0; index < x.count(1); index++) {
            int clause = x.clause(index);
            tell(facts, clause);
            tell(facts, x.value(clause));
            for (int edition = 1; edition <= x.count(2); edition++) {
                tell(facts, x.valueIn(clause, edition));
            }
        }
        for (int edition = 1; edition <= x.count(2); edition++) {
            tell(facts, x.changes(edition));
            for (int index = 0; index < x.changes(edition); index++) {
                for (int what = 0; what < 3; what++) {
                    tell(facts, x.change(edition, index, what));
                }
            }
        }
    }

    private static void tell(StringBuilder facts, int fact) {
        facts.append(fact).append(' ');
    }
}
