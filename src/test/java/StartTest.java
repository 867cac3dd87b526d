/** Promise 3. */
public final class StartTest {
    public static void main(String[] args) {
        Check check = new Check();
        wrongInputs(check);
        sendsPrepareToAllNodes(check);
        refusedWhenReadyOrAtAnAttempt(check);
        refusedWithoutRoom(check);
        ballotsRise(check);
        ballotsGoAboveWhatNumbersSay(check);
        takesTheLowestFreeSeat(check);
        takesItsOwnSeatFirst(check);
        failsWithoutASeat(check);
        failsWithoutASpan(check);
        everyIssuerMayStart(check);
        roomForJustFive(check);
        aNewAttemptBehindAFailedOne(check);
        anEighthOfThePromisedNumber(check);
        behindTheMark(check);
        theLowestOfItsOwnSeats(check);
        anOwnSeatBeforeALowerFreeOne(check);
        theLastSeat(check);
        aSpanBehindTheMarkThatEndsTooLate(check);
        failuresSayNothingOfNumbers(check);
        check.end();
    }

    private static void wrongInputs(Check check) {
        IssueHouse x = new IssueHouse();
        check.outOfBounds("start(-1)", () -> x.start(-1));
        check.outOfBounds("start(8)", () -> x.start(8));
        x.start(0);
        Play.fill(x, 0, 90);
        check.outOfBounds("start(8) without room", () -> x.start(8));
    }

    private static void sendsPrepareToAllNodes(Check check) {
        IssueHouse x = new IssueHouse();
        x.start(7);
        check.due("letters()", x.letters(), 5);
        for (int n = 0; n < 5; n++) {
            long[] due = {Play.PREPARE, 7, n, 15, -1, -1};
            for (int what = 0; what < 6; what++) {
                check.due("letter(" + n + ", " + what + ")", x.letter(n, what), due[what]);
            }
        }
        check.due("issuer(7, 0)", x.issuer(7, 0), 0);
        check.due("issuer(7, 1)", x.issuer(7, 1), 1);
        check.due("issuer(6, 1)", x.issuer(6, 1), 0);
    }

    private static void refusedWhenReadyOrAtAnAttempt(Check check) {
        IssueHouse x = new IssueHouse();
        x.start(0);
        check.badState("start(0) while preparing", () -> x.start(0));
        Play.promises(x, 0, 1, 2);
        check.badState("start(0) while accepting", () -> x.start(0));
        Play.accept(x, 0, 1, 2);
        x.deliver(4);
        x.deliver(4);
        x.deliver(4);
        check.badState("start(0) when ready", () -> x.start(0));
        check.due("letters()", x.letters(), 4);
        x.prolong(0);
        check.badState("start(0) while prolonging", () -> x.start(0));
        check.due("letters()", x.letters(), 9);
    }

    private static void refusedWithoutRoom(Check check) {
        IssueHouse x = new IssueHouse();
        x.start(0);
        Play.fill(x, 0, 86);
        check.badState("start(1) with 86 letters", () -> x.start(1));
        check.due("issuer(1, 1)", x.issuer(1, 1), 0);
        check.due("letters()", x.letters(), 86);
        x.lose(0);
        x.start(1);
        check.due("letters()", x.letters(), 90);
        check.due("the ballot, the refused start being no attempt", x.letter(89, 3), 9);
    }

    private static void ballotsRise(Check check) {
        IssueHouse x = new IssueHouse();
        for (int a = 1; a <= 4; a++) {
            x.start(3);
            check.due("ballot of attempt " + a, x.letter(0, 3), 8 * a + 3);
            x.crash(3);
            Play.clear(x);
        }
        x.start(2);
        check.due("ballot of another issuer", x.letter(0, 3), 10);
    }

    private static void ballotsGoAboveWhatNumbersSay(Check check) {
        IssueHouse x = new IssueHouse();
        for (int a = 1; a <= 5; a++) {
            Play.startInVain(x, 7, 0, 1, 2, 0);
        }
        x.start(0);
        x.deliver(0);
        check.due("kind", x.letter(4, 0), Play.NO);
        check.due("promised number", x.letter(4, 5), 47);
        x.deliver(4);
        check.due("issuer(0, 6)", x.issuer(0, 6), 1);
        Play.clear(x);
        x.start(0);
        check.due("ballot behind NO with 47", x.letter(0, 3), 48);
        x.crash(0);
        Play.clear(x);
        x.start(0);
        check.due("ballot behind that", x.letter(0, 3), 56);
    }

    private static void takesTheLowestFreeSeat(Check check) {
        IssueHouse x = new IssueHouse();
        for (int i = 0; i < 8; i++) {
            Play.start(x, i);
            takenBy(check, x, i, i);
        }
        IssueHouse y = new IssueHouse();
        for (int s = 0; s < 4; s++) {
            Play.skip(y, 7 - s, s);
            Play.start(y, 7 - s);
            takenBy(check, y, 7 - s, s);
        }
    }

    private static void takenBy(Check check, IssueHouse x, int issuer, int seat) {
        check.due("seat of issuer " + issuer, x.issuer(issuer, 2), seat);
        check.due("term of issuer " + issuer, x.issuer(issuer, 3), 1);
        check.due("span of issuer " + issuer, x.issuer(issuer, 4), 60000);
        check.due("holder of seat " + seat, x.seat(seat, 0), issuer);
    }

    private static void takesItsOwnSeatFirst(Check check) {
        IssueHouse x = new IssueHouse();
        Play.startInVain(x, 0, 0, 1, 2, 0);
        Play.startWith(x, 1, 0, 1, 2);
        check.due("seat of issuer 1, seat 0 being held at node 0", x.issuer(1, 2), 1);
        x.crash(1);
        Play.startWith(x, 1, 1, 2, 3);
        check.due("seat of issuer 1, seat 0 being free at nodes 1 to 3", x.issuer(1, 2), 1);
        check.due("term of issuer 1", x.issuer(1, 3), 2);
        check.due("span of issuer 1, behind the mark", x.issuer(1, 4), 120000);
    }

    /** "Without a seat ... the attempt FAILS". */
    private static void failsWithoutASeat(Check check) {
        IssueHouse x = new IssueHouse();
        Play.withoutASeatFor7(x);
        check.due("deliver of the third PROMISE", x.deliver(2), 0);
        check.due("letters()", x.letters(), 2);
        check.issuer(x, 7, 0, 0, -1, -1, -1, -1, 1, 0);
    }

    private static void failsWithoutASpan(Check check) {
        IssueHouse x = new IssueHouse();
        x.clock(0, Play.LATEST - 59998);
        x.start(0);
        x.deliver(0);
        x.deliver(0);
        x.deliver(0);
        x.deliver(2);
        x.deliver(2);
        check.due("deliver of the third PROMISE", x.deliver(2), 0);
        check.due("issuer(0, 1)", x.issuer(0, 1), 0);
        check.due("issuer(0, 6)", x.issuer(0, 6), 1);
        Play.clear(x);
        x.clock(0, Play.LATEST - 59999);
        Play.start(x, 0);
        check.due("issuer(0, 4)", x.issuer(0, 4), Play.LATEST);
        check.due("issuer(0, 6)", x.issuer(0, 6), 1);
    }

    /** "ISSUERS are 0 .. 7"; "BALLOT is 8 * a + i", a being 1 at first. */
    private static void everyIssuerMayStart(Check check) {
        IssueHouse x = new IssueHouse();
        check.outOfBounds("start(least)", () -> x.start(Integer.MIN_VALUE));
        check.outOfBounds("start(greatest)", () -> x.start(Integer.MAX_VALUE));
        for (int i = 0; i < 8; i++) {
            x.start(i);
            check.due("ballot of issuer " + i, x.letter(5 * i, 3), 8 + i);
        }
        check.due("letters()", x.letters(), 40);
    }

    /** "or there would be more than 90 letters": with 85 there are 90 then, with 86 to 90 more. */
    private static void roomForJustFive(Check check) {
        IssueHouse x = new IssueHouse();
        x.start(0);
        Play.fill(x, 0, 84);
        for (int letters = 84; letters <= 85; letters++) {
            x.start(1);
            check.due("letters()", x.letters(), letters + 5);
            check.due("the last one's node", x.letter(letters + 4, 2), 4);
            x.crash(1);
            for (int n = 0; n < 5; n++) {
                x.lose(letters);
            }
            x.twin(0);
        }
        for (int letters = 86; letters <= 90; letters++) {
            check.badState("start(1) with " + letters, () -> x.start(1));
            check.due("letters()", x.letters(), letters);
            Play.fill(x, 0, letters + 1 <= 90 ? letters + 1 : 90);
        }
    }

    /** "when it is ready, or at an attempt": one whose attempt failed, or that crashed, is neither. */
    private static void aNewAttemptBehindAFailedOne(Check check) {
        IssueHouse x = new IssueHouse();
        x.start(0);
        x.twin(0);
        x.deliver(0);
        x.deliver(4);
        check.due("deliver(5) of NO", x.deliver(5), 0);
        x.start(0);
        check.due("issuer(0, 1) behind NO", x.issuer(0, 1), 1);
        x.crash(0);
        x.start(0);
        check.due("issuer(0, 1) behind a crash", x.issuer(0, 1), 1);
        IssueHouse y = Play.readyAt(1000);
        y.crash(0);
        y.start(0);
        check.due("issuer(0, 1), having been ready", y.issuer(0, 1), 1);
    }

    /** "its next ballot's a is then more than an eighth of the promised number, cut". */
    private static void anEighthOfThePromisedNumber(Check check) {
        check.due("a behind NO with 47", nextABehindNo(check, 5, 7), 6);
        check.due("a behind NO with 48", nextABehindNo(check, 6, 0), 7);
        check.due("a behind NO with 55", nextABehindNo(check, 6, 7), 7);
        check.due("a behind NO with 16", nextABehindNo(check, 2, 0), 3);
        check.due("a behind NO with 15", nextABehindNo(check, 1, 7), 2);
    }

    /** Issuer 3 tries for the first time, and node 0 has promised the ballot with this a of another. */
    private static long nextABehindNo(Check check, int a, int other) {
        IssueHouse x = new IssueHouse();
        Play.skip(x, other, a - 1);
        x.start(other);
        x.deliver(0);
        Play.clear(x);
        x.start(3);
        x.deliver(0);
        check.due("the promised number", x.letter(4, 5), 8 * a + other);
        x.deliver(4);
        Play.clear(x);
        x.start(3);
        check.due("the issuer's part of the ballot", x.letter(0, 3) % 8, 3);
        return x.letter(0, 3) / 8;
    }

    /** "begins at its clock, or one above that row's mark, whichever is later", the mark being 60999. */
    private static void behindTheMark(Check check) {
        check.due("with the clock below the mark", lastOfTheSecondSpan(0), 60999 + 60000);
        check.due("with the clock at the mark", lastOfTheSecondSpan(60999), 60999 + 60000);
        check.due("with the clock one above the mark", lastOfTheSecondSpan(61000), 60999 + 60000);
        check.due("with the clock two above the mark", lastOfTheSecondSpan(61001), 60999 + 60001);
        IssueHouse x = new IssueHouse();
        Play.start(x, 0);
        check.due("with the clock at 0, the mark being 0", x.issuer(0, 4), 60000);
        check.due("with the clock at 1, the mark being 0", Play.readyAt(1).issuer(0, 4), 60000);
        check.due("with the clock at 2, the mark being 0", Play.readyAt(2).issuer(0, 4), 60001);
    }

    private static long lastOfTheSecondSpan(long clock) {
        IssueHouse x = Play.readyAt(1000);
        x.crash(0);
        x.clock(0, clock);
        Play.start(x, 0);
        return x.issuer(0, 4);
    }

    /** "the lowest seat of which it is the holder": of seats 0 and 1, both its own, seat 0. */
    private static void theLowestOfItsOwnSeats(Check check) {
        IssueHouse x = new IssueHouse();
        Play.startInVain(x, 0, 0, 1, 2, 0);
        Play.startInVain(x, 1, 1, 2, 3, 1);
        Play.startWith(x, 0, 1, 2, 3);
        check.due("issuer(0, 2), seat 0 being held by issuer 1", x.issuer(0, 2), 1);
        x.crash(0);
        Play.startWith(x, 0, 0, 2, 3);
        check.due("issuer(0, 2), both being its own", x.issuer(0, 2), 0);
        check.due("issuer(0, 3)", x.issuer(0, 3), 2);
    }

    /** "or, if there is none, the lowest without one": not while it is the holder of the last seat. */
    private static void anOwnSeatBeforeALowerFreeOne(Check check) {
        IssueHouse x = new IssueHouse();
        for (int i = 0; i < 7; i++) {
            Play.startInVain(x, i, 0, 1, 2, 0);
        }
        Play.startWith(x, 7, 0, 1, 2);
        check.due("issuer(7, 2)", x.issuer(7, 2), 7);
        x.crash(7);
        Play.startWith(x, 7, 1, 2, 3);
        check.due("issuer(7, 2), seats 0 to 6 being free at nodes 1 to 3", x.issuer(7, 2), 7);
        check.due("issuer(7, 3)", x.issuer(7, 3), 2);
    }

    /** "SEATS 0 .. 7": all eight are taken, the last by the last issuer, and it gives numbers of it. */
    private static void theLastSeat(Check check) {
        IssueHouse x = new IssueHouse();
        for (int i = 0; i < 8; i++) {
            Play.start(x, i);
        }
        check.due("issuer(7, 2)", x.issuer(7, 2), 7);
        check.due("seat(7, 0)", x.seat(7, 0), 7);
        check.due("next(7)", x.next(7), Play.number(1, 7, 0));
        check.due("issuer(7, 6)", x.issuer(7, 6), 0);
    }

    /** "if the span would end above 2^41 - 1, the attempt FAILS", the span beginning above a mark. */
    private static void aSpanBehindTheMarkThatEndsTooLate(Check check) {
        IssueHouse x = Play.readyAt(Play.LATEST - 119999);
        x.crash(0);
        x.clock(0, 0);
        Play.start(x, 0);
        check.due("issuer(0, 4), the span ending with 2^41 - 1", x.issuer(0, 4), Play.LATEST);
        IssueHouse y = Play.readyAt(Play.LATEST - 119998);
        y.crash(0);
        y.clock(0, 0);
        failsAtTheThirdPromise(check, y, 0);
        IssueHouse z = Play.readyAt(Play.LATEST - 59999);
        z.crash(0);
        z.clock(0, Play.LATEST);
        failsAtTheThirdPromise(check, z, 0);
    }

    private static void failsAtTheThirdPromise(Check check, IssueHouse x, int issuer) {
        long failed = x.issuer(issuer, 6);
        x.start(issuer);
        for (int n = 0; n < 3; n++) {
            x.deliver(0);
        }
        x.deliver(2);
        x.deliver(2);
        check.due("deliver of the third PROMISE", x.deliver(2), 0);
        check.due("letters()", x.letters(), 2);
        check.due("issuer(" + issuer + ", 1)", x.issuer(issuer, 1), 0);
        check.due("issuer(" + issuer + ", 6)", x.issuer(issuer, 6), failed + 1);
        check.due("issuer(" + issuer + ", 0)", x.issuer(issuer, 0), 0);
        Play.clear(x);
    }

    /** NUMBERS is what a NO says: behind another failure a is one more. */
    private static void failuresSayNothingOfNumbers(Check check) {
        IssueHouse x = new IssueHouse();
        x.clock(0, Play.LATEST);
        for (int a = 1; a <= 3; a++) {
            failsAtTheThirdPromise(check, x, 0);
        }
        x.start(0);
        check.due("the fourth ballot", x.letter(0, 3), 32);
    }
}
