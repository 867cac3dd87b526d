/** Promise 7. */
public final class LettersTest {
    public static void main(String[] args) {
        Check check = new Check();
        IssueHouse x = new IssueHouse();
        check.due("letters()", x.letters(), 0);
        x.start(0);
        check.due("letters() behind start", x.letters(), 5);
        x.deliver(0);
        check.due("letters() behind deliver with an answer", x.letters(), 5);
        x.lose(0);
        check.due("letters() behind lose", x.letters(), 4);
        x.twin(0);
        check.due("letters() behind twin", x.letters(), 5);
        x.node(2, false);
        x.deliver(0);
        check.due("letters() behind deliver to a down node", x.letters(), 4);
        x.crash(0);
        check.due("letters() behind crash", x.letters(), 4);
        Play.fill(x, 0, 90);
        check.due("letters() when full", x.letters(), 90);
        Play.clear(x);
        check.due("letters() when empty", x.letters(), 0);
        everyCountUpToNinety(check);
        neverMoreThanNinety(check);
        check.end();
    }

    /** "at most 90": each count from none to 90 is told. */
    private static void everyCountUpToNinety(Check check) {
        IssueHouse x = new IssueHouse();
        check.due("letters() of none", x.letters(), 0);
        x.start(0);
        for (int many = 5; many < 90; many++) {
            check.due("letters()", x.letters(), many);
            x.twin(0);
        }
        for (int many = 90; many > 0; many--) {
            check.due("letters()", x.letters(), many);
            x.lose(many - 1);
        }
        check.due("letters() of none", x.letters(), 0);
    }

    /** "at most 90": whatever would send more is refused, and what takes a letter away for one is not. */
    private static void neverMoreThanNinety(Check check) {
        IssueHouse x = new IssueHouse();
        Play.crowded(x, 90);
        check.badState("start(2)", () -> x.start(2));
        check.badState("prolong(0)", () -> x.prolong(0));
        check.badState("twin(0)", () -> x.twin(0));
        check.badState("deliver of a third PROMISE", () -> x.deliver(Play.BUSY_THIRD_PROMISE));
        check.due("letters()", x.letters(), 90);
        check.due("deliver(0) of PREPARE", x.deliver(0), 1);
        check.due("letters()", x.letters(), 90);
    }
}
