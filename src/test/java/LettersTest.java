/** Promise 7. */
public final class LettersTest {
    public static void main(String[] args) {
        Check check = new Check();
        IssueHouse x = new IssueHouse();
        check.due("letters()", x.letters(), 0);
        x.start(0);
        check.due("letters() behind start", x.letters(), 5);
        x.deliver(0);
        check.due("letters() behind deliver with an answer", x.letters(), 5);
        x.lose(0);
        check.due("letters() behind lose", x.letters(), 4);
        x.twin(0);
        check.due("letters() behind twin", x.letters(), 5);
        x.node(2, false);
        x.deliver(0);
        check.due("letters() behind deliver to a down node", x.letters(), 4);
        x.crash(0);
        check.due("letters() behind crash", x.letters(), 4);
        Play.fill(x, 0, 90);
        check.due("letters() when full", x.letters(), 90);
        Play.clear(x);
        check.due("letters() when empty", x.letters(), 0);
        check.end();
    }
}
