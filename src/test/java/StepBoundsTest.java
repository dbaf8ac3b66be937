/** Terms, "A MOVE" and "A STEP", and promise 8: the pages' order, the serials, and when the guest is stopped. */
final class StepBoundsTest {
    private static final int NO = MovingGuest.NO;

    public static void main(String[] args) {
        stepWithoutMove();
        stepWithoutGuest();
        stepWithoutTarget();
        allDueAtFirst();
        page0AtFirst();
        page0Behind7();
        behindTheLatest();
        theLatestItselfComesLast();
        firstSerial();
        serialsGoOn();
        changedWhenDue();
        changedWhenSent();
        changedWhenKnown();
        dueAgain();
        dueAgainOnlyIfNoneIsDue();
        twoPagesAfterSevenSteps();
        onePageAfterSevenSteps();
        twoPagesAfterEightSteps();
        threePagesAfterEightSteps();
        noPageAfterEightSteps();
        twoPagesAfterNineSteps();
        changeBeforeTheNinthStep();
        stopBeforeThePageIsSent();
        fortySteps();
        fortyStepsOfAnotherMove();
        stateOnlyWhenAllAreKnown();
        stateNeedsThePagesAlone();
        stepsAreCounted();
        Check.end();
    }

    private static MovingGuest moving(int... words) {
        MovingGuest x = Guests.on0(words);
        Check.due("move", x.move(), 1);
        return x;
    }

    private static void stepWithoutMove() {
        Check.sentence("step: NO when no move goes on");
        MovingGuest x = new MovingGuest();
        stepsNot(x);
        Check.due("create", x.create(0), 1);
        stepsNot(x);
        Check.due("move", x.move(), 1);
        Check.due("step", x.step(), 1);
        Check.due("abort", x.abort(), true);
        stepsNot(x);
        x = Guests.on0();
        Guests.wholeMove(x);
        stepsNot(x);
    }

    private static void stepsNot(MovingGuest x) {
        Check.unchanged(x, () -> Check.due("step", x.step(), NO));
    }

    private static void stepWithoutGuest() {
        Check.sentence("step: NO when its source holds no guest");
        MovingGuest x = Guests.on0();
        Guests.makeReady(x);
        Check.due("with the guest", x.step(), 2);
        Check.due("crash of the source", x.crash(0), true);
        Check.due("the move goes on", x.told(2), 1);
        stepsNot(x);
        Check.due("back", x.back(0), true);
        stepsNot(x);
        Check.due("takeOver", x.takeOver(), true);
        stepsNot(x);
    }

    private static void stepWithoutTarget() {
        Check.sentence("step: a target that is not up refuses nothing");
        MovingGuest x = moving();
        Check.due("crash of the target", x.crash(1), true);
        Guests.sends(x, 8);
        Check.due("due again", x.step(), 3);
        Check.due("steps", x.told(8), 9);
    }

    private static void allDueAtFirst() {
        Check.sentence("for each page DUE to be sent (all at first)");
        MovingGuest x = moving();
        Check.due("not known", x.told(5), 8);
        Guests.sends(x, 8);
        Check.due("no ninth is due", x.step(), 3);
    }

    private static void page0AtFirst() {
        Check.sentence("page 0 at first");
        MovingGuest x = moving();
        Guests.sends(x, 3);
        Check.due("page", x.piece(0, 2), 0);
        Check.due("page", x.piece(1, 2), 1);
        Check.due("page", x.piece(2, 2), 2);
        Check.due("abort", x.abort(), true);
        Check.due("move", x.move(), 2);
        Check.due("step", x.step(), 1);
        Check.due("page 0 in the next move too", x.piece(3, 2), 0);
    }

    private static void page0Behind7() {
        Check.sentence("0 comes behind 7");
        MovingGuest x = moving(Code.store(0, 0, 8), Code.store(0, 0, 0));
        Guests.pages(x, 8);
        Check.due("pages 1 and 0 change", x.run(0, 9), 2);
        Guests.sends(x, 2);
        Check.due("page 0 behind 7", x.piece(0, 2), 0);
        Check.due("then page 1", x.piece(1, 2), 1);
        x = moving();
        Guests.sends(x, 8);
        Check.due("page 7", x.piece(7, 2), 7);
        Guests.loses(x, 8);
        Check.due("due again", x.step(), 3);
        Guests.sends(x, 8);
        for (int k = 0; k < 8; k++) {
            Check.due("page", x.piece(k, 2), k);
        }
    }

    private static void behindTheLatest() {
        Check.sentence("from the one behind the latest one sent in the move on the first such");
        MovingGuest x = moving(Code.store(0, 0, 8), Code.store(0, 0, 0), Code.store(0, 0, 40));
        Guests.pages(x, 5);
        Check.due("pages 1, 0 and 5 change", x.run(0, 9), 3);
        Guests.sends(x, 5);
        int[] due = {5, 6, 7, 0, 1};
        for (int k = 0; k < 5; k++) {
            Check.due("page", x.piece(k, 2), due[k]);
        }
    }

    private static void theLatestItselfComesLast() {
        Check.sentence("from the one behind the latest one sent on (the latest itself last)");
        MovingGuest x = moving(Code.store(0, 0, 20), Code.store(0, 0, 12));
        Guests.pages(x, 3);
        Check.due("page 2, the latest, and 1 change", x.run(0, 9), 2);
        Guests.sends(x, 7);
        int[] due = {3, 4, 5, 6, 7, 1, 2};
        for (int k = 0; k < 7; k++) {
            Check.due("page", x.piece(k, 2), due[k]);
        }
        x = moving(Code.store(0, 0, 63));
        Guests.pages(x, 8);
        Check.due("page 7 alone changes, the latest", x.run(0, 9), 1);
        Check.due("step", x.step(), 1);
        Check.due("page 7 again", x.piece(0, 2), 7);
    }

    private static void firstSerial() {
        Check.sentence("the next serial (1 for the first of a move)");
        MovingGuest x = moving(5, 6);
        Guests.pages(x, 3);
        Check.due("abort", x.abort(), true);
        Check.due("move", x.move(), 2);
        Guests.sends(x, 2);
        Check.due("the first of move 2", x.piece(0, 3), 1);
        Check.due("the second", x.piece(1, 3), 2);
        Check.due("no words yet", x.memory(1, 1), 0);
        Check.due("deliver", x.deliver(0), 1);
        Check.due("1 is greater than 0", x.memory(1, 1), 6);
        Check.due("SEEN with serial 1", x.piece(1, 3), 1);
        Check.due("deliver it", x.deliver(1), 3);
        Check.due("known", x.told(5), 7);
    }

    private static void serialsGoOn() {
        Check.sentence("the next serial, for a page that is lost or sent again too");
        MovingGuest x = moving();
        Guests.sends(x, 8);
        Check.due("due again takes no serial", x.step(), 3);
        Check.due("lost, for the link has 8", x.step(), 1);
        Guests.loses(x, 1);
        Check.due("step", x.step(), 1);
        Check.due("page", x.piece(7, 2), 1);
        Check.due("serial", x.piece(7, 3), 10);
    }

    private static void changedWhenDue() {
        Check.sentence("a page that is changed is due (it was due)");
        MovingGuest x = moving(Code.store(0, 0, 9));
        Guests.runs(x, 0, 1);
        Check.due("not known", x.told(5), 8);
        Guests.sends(x, 8);
        Check.due("each once", x.step(), 3);
    }

    private static void changedWhenSent() {
        Check.sentence("a page that is changed is due (it was sent)");
        MovingGuest x = moving(Code.store(0, 0, 9));
        Guests.sends(x, 8);
        Guests.runs(x, 0, 1);
        Guests.loses(x, 8);
        Check.due("step", x.step(), 1);
        Check.due("page 1", x.piece(0, 2), 1);
        Check.due("no other is due", x.step(), 3);
    }

    private static void changedWhenKnown() {
        Check.sentence("a page that is changed is due (it was known)");
        MovingGuest x = moving(Code.store(0, 0, 9));
        Guests.pages(x, 8);
        Check.due("not known", x.told(5), 0);
        Guests.runs(x, 0, 1);
        Check.due("not known", x.told(5), 1);
        Check.due("step", x.step(), 1);
        Check.due("page 1", x.piece(0, 2), 1);
        Check.due("sent, not known", x.told(5), 1);
    }

    private static void dueAgain() {
        Check.sentence("all such are due again, and nothing else is done");
        MovingGuest x = moving();
        Guests.sends(x, 3);
        Guests.loses(x, 3);
        Guests.pages(x, 5);
        String due = Readings.of(x).replace("told 0,1,1,0,0,3,0,0,8", "told 0,1,1,0,0,3,0,0,9");
        Check.due("step", x.step(), 3);
        Check.due("one step more, and all else as before", Readings.of(x).equals(due), true);
        Guests.sends(x, 3);
        for (int k = 0; k < 3; k++) {
            Check.due("the page that was lost", x.piece(k, 2), k);
            Check.due("its serial", x.piece(k, 3), 9 + k);
        }
        Check.due("the known ones are not due", x.step(), 3);
    }

    private static void dueAgainOnlyIfNoneIsDue() {
        Check.sentence("else, if a page is sent and not known");
        MovingGuest x = moving(Code.store(0, 0, 9));
        Guests.sends(x, 7);
        Check.due("page 7 is due", x.step(), 1);
        Guests.runs(x, 0, 1);
        Guests.loses(x, 8);
        Check.due("page 1 is due", x.step(), 1);
        Check.due("none is due, 8 are sent", x.step(), 3);
        Check.due("page 2, behind the latest", x.step(), 1);
        Check.due("its number", x.piece(1, 2), 2);
    }

    /** Pages 0 .. known - 1 are known, and as many more sent as make up the steps. */
    private static MovingGuest after(int steps, int known, int... words) {
        MovingGuest x = moving(words);
        Guests.pages(x, known);
        Guests.sends(x, steps - known);
        Check.due("steps", x.told(8), steps);
        Check.due("not known", x.told(5), 8 - known);
        return x;
    }

    private static void stopsAt(MovingGuest x, int answer, boolean stops) {
        Check.due("not stopped", x.told(4), 0);
        Guests.runs(x, 0, 1);
        Check.due("step", x.step(), answer);
        Check.due("stopped", x.told(4), stops ? 1 : 0);
        Check.due("run", x.run(0, 1), stops ? NO : 1);
    }

    private static void twoPagesAfterSevenSteps() {
        Check.sentence("with at least 8 steps done, at most 2 pages are not known: 7 steps, 2 pages");
        MovingGuest x = after(7, 6, Code.jump(0));
        stopsAt(x, 1, false);
        Check.sentence("with at least 8 steps done, at most 2 pages are not known: 8 steps, 2 pages");
        stopsAt(x, 3, true);
    }

    private static void onePageAfterSevenSteps() {
        Check.sentence("with at least 8 steps done, at most 2 pages are not known: 7 steps, 1 page");
        MovingGuest x = after(7, 7, Code.jump(0));
        stopsAt(x, 1, false);
        Check.sentence("with at least 8 steps done, at most 2 pages are not known: 8 steps, 1 page");
        stopsAt(x, 3, true);
    }

    private static void twoPagesAfterEightSteps() {
        Check.sentence("at most 2 pages are not known: 2");
        stopsAt(after(8, 6, Code.jump(0)), 3, true);
    }

    private static void threePagesAfterEightSteps() {
        Check.sentence("at most 2 pages are not known: 3");
        MovingGuest x = after(8, 5, Code.jump(0));
        stopsAt(x, 3, false);
        stopsAt(x, 1, false);
    }

    private static void noPageAfterEightSteps() {
        Check.sentence("(all are known) before all this, the guest is stopped: a piece STATE comes to the link");
        MovingGuest x = after(8, 8, Code.jump(0));
        stopsAt(x, 2, true);
        Check.due("pieces", x.told(6), 1);
        Check.due("STATE", x.piece(0, 0), 2);
        Check.due("its move", x.piece(0, 1), 1);
    }

    private static void twoPagesAfterNineSteps() {
        Check.sentence("at most 2 pages are not known, by a SEEN that comes late");
        MovingGuest x = after(8, 5, Code.jump(0));
        Check.due("deliver PAGE", x.deliver(0), 1);
        Check.due("3 are not known", x.told(5), 3);
        stopsAt(x, 3, false);
        Check.due("page 5 is due again, and sent", x.step(), 1);
        Check.due("deliver PAGE 5 again", x.deliver(3), 1);
        Check.due("deliver its SEEN", x.deliver(3), 3);
        Check.due("2 are not known", x.told(5), 2);
        stopsAt(x, 1, true);
    }

    private static void changeBeforeTheNinthStep() {
        Check.sentence("at most 2 pages are not known, but one more is changed");
        MovingGuest x = after(8, 6, Code.store(0, 0, 1), Code.HALT);
        Check.due("2 are not known", x.told(5), 2);
        Guests.runs(x, 0, 1);
        Check.due("3 are not known", x.told(5), 3);
        Check.due("step", x.step(), 1);
        Check.due("not stopped", x.told(4), 0);
        Check.due("runs", x.run(0, 1), 0);
    }

    private static void stopBeforeThePageIsSent() {
        Check.sentence("before all this, the guest is stopped (and a page is sent all the same)");
        MovingGuest x = moving(Code.store(0, 0, 9), Code.jump(0));
        Guests.pages(x, 8);
        Guests.runs(x, 0, 1);
        Check.due("step", x.step(), 1);
        Check.due("stopped", x.told(4), 1);
        Check.due("run", x.run(0, 1), NO);
        Check.due("deliver PAGE", x.deliver(0), 1);
        Check.due("deliver SEEN", x.deliver(0), 3);
        Check.due("the state", x.step(), 2);
    }

    /** Steps whose pieces are all lost, so that no page is known. */
    private static void stepsInVain(MovingGuest x, int n) {
        for (int i = 0; i < n; i++) {
            int steps = x.told(8) + 1;
            Check.due("step " + steps, x.step(), steps % 9 == 0 ? 3 : 1);
            Guests.loses(x, x.told(6));
        }
    }

    private static void fortySteps() {
        Check.sentence("the guest is stopped if 40 steps of the move were done");
        MovingGuest x = moving(Code.jump(0));
        stepsInVain(x, 39);
        Check.due("steps", x.told(8), 39);
        stopsAt(x, 1, false);
        Check.due("steps", x.told(8), 40);
        stopsAt(x, 1, true);
        Check.due("steps", x.told(8), 41);
        Check.due("8 are not known", x.told(5), 8);
        Check.due("step 42", x.step(), 1);
        Check.due("still stopped", x.told(4), 1);
        Check.due("abort", x.abort(), true);
        Guests.runs(x, 0, 1);
    }

    private static void fortyStepsOfAnotherMove() {
        Check.sentence("40 steps of the move (not of an earlier one)");
        MovingGuest x = moving(Code.jump(0));
        stepsInVain(x, 40);
        Check.due("abort", x.abort(), true);
        Check.due("move", x.move(), 2);
        stopsAt(x, 1, false);
        Check.due("steps", x.told(8), 1);
        Guests.pages(x, 7);
        stopsAt(x, 3, true);
    }

    private static void stateOnlyWhenAllAreKnown() {
        Check.sentence("else (all are known) a piece STATE comes to the link");
        MovingGuest x = after(8, 7);
        Check.due("one page is sent", x.step(), 3);
        Check.due("stopped", x.told(4), 1);
        Check.due("it is due", x.step(), 1);
        Check.due("it is sent", x.step(), 3);
        Check.due("it is due", x.step(), 1);
        Check.due("deliver PAGE", x.deliver(2), 1);
        Check.due("deliver SEEN", x.deliver(2), 3);
        Check.due("all are known", x.step(), 2);
        Check.due("and again", x.step(), 2);
        Check.due("steps", x.told(8), 14);
    }

    private static void stateNeedsThePagesAlone() {
        Check.sentence("STATE (all of the machine but its memory)");
        MovingGuest x = Guests.on0(Code.set(0, 4), Code.set(1, 40), Code.write(0));
        Guests.runs(x, 0, 3);
        Guests.makeReady(x);
        Check.due("the source still holds it", x.guest(0, 0), 4);
        Check.due("the target holds none", x.guest(1, 0), 0);
        Check.due("no output there", x.output(1, 0), 0);
        Check.due("memory there", x.memory(1, 0), Code.set(0, 4));
        Check.due("no word of which no page came", x.memory(1, 63), 0);
    }

    private static void stepsAreCounted() {
        Check.sentence("how many steps of the move were done");
        MovingGuest x = moving();
        Check.due("none", x.told(8), 0);
        Guests.sends(x, 8);
        Check.due("8", x.told(8), 8);
        Check.due("due again", x.step(), 3);
        Check.due("9", x.told(8), 9);
        Check.due("with a full link", x.step(), 1);
        Check.due("10", x.told(8), 10);
        x = Guests.on0();
        Guests.makeReady(x);
        Check.due("with the state", x.told(8), 9);
        Check.due("crash", x.crash(0), true);
        Check.due("a step that is refused", x.step(), NO);
        Check.due("still 9", x.told(8), 9);
    }
}
