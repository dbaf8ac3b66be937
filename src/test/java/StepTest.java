/** Promise 8: step. */
final class StepTest {
    private static final int NO = MovingGuest.NO;

    public static void main(String[] args) {
        refused();
        pagesInTurn();
        behindTheLatestSent();
        onlySentPagesAreDueAgain();
        changedPageIsDue();
        sameWordIsAChange();
        wordsAsSent();
        stopsWithTwoUnknown();
        goesOnWithThreeUnknown();
        goesOnBeforeEightSteps();
        stopsAfterFortySteps();
        stateAgain();
        Check.end();
    }

    private static void refused() {
        MovingGuest x = Guests.on0();
        Check.due("step without a move", x.step(), NO);
        Guests.makeReady(x);
        Check.due("crash", x.crash(0), true);
        Check.due("step without a guest", x.step(), NO);
        Check.due("not counted", x.told(8), 9);
        Check.due("back", x.back(0), true);
        Check.due("step of a source that is back", x.step(), NO);
    }

    private static void pagesInTurn() {
        MovingGuest x = Guests.on0();
        Check.due("move", x.move(), 1);
        for (int page = 0; page < 8; page++) {
            Check.due("step", x.step(), 1);
            Check.due("kind", x.piece(page, 0), 1);
            Check.due("page", x.piece(page, 2), page);
            Check.due("serial", x.piece(page, 3), page + 1);
            Check.due("steps", x.told(8), page + 1);
        }
        Check.due("none is known", x.told(5), 8);
        Check.due("all are due again", x.step(), 3);
        Check.due("this is a step too", x.told(8), 9);
        Check.due("nothing was sent", x.told(6), 8);
        Check.due("lose", x.lose(0), 1);
        Check.due("step", x.step(), 1);
        Check.due("page 0 behind 7", x.piece(7, 2), 0);
        Check.due("serial", x.piece(7, 3), 9);
        Check.due("a step with a full link", x.step(), 1);
        Check.due("its piece is lost", x.told(6), 8);
        Check.due("lose", x.lose(0), 1);
        Check.due("step", x.step(), 1);
        Check.due("the lost page is not due", x.piece(7, 2), 2);
        Check.due("the lost serial is gone", x.piece(7, 3), 11);
    }

    private static void behindTheLatestSent() {
        MovingGuest x = Guests.on0(Code.store(0, 0, 48), Code.store(0, 0, 8));
        Check.due("move", x.move(), 1);
        Guests.pages(x, 7);
        Check.due("pages 6 and 1 change", x.run(0, 9), 2);
        Check.due("page 7, 6 and 1 are not known", x.told(5), 3);
        Check.due("step", x.step(), 1);
        Check.due("page 7", x.piece(0, 2), 7);
        Check.due("step", x.step(), 1);
        Check.due("page 1", x.piece(1, 2), 1);
        Check.due("step", x.step(), 1);
        Check.due("page 6", x.piece(2, 2), 6);
        Check.due("serial", x.piece(2, 3), 10);
    }

    private static void onlySentPagesAreDueAgain() {
        MovingGuest x = Guests.on0();
        Check.due("move", x.move(), 1);
        Guests.pages(x, 3);
        for (int i = 0; i < 5; i++) {
            Check.due("step", x.step(), 1);
        }
        for (int i = 0; i < 5; i++) {
            Check.due("lose", x.lose(0), 1);
        }
        Check.due("due again", x.step(), 3);
        Check.due("not known", x.told(5), 5);
        Check.due("step", x.step(), 1);
        Check.due("page 3, for 0 to 2 are known", x.piece(0, 2), 3);
    }

    private static void changedPageIsDue() {
        MovingGuest x = Guests.on0(Code.set(0, 9), Code.store(0, 1, 5));
        Check.due("move", x.move(), 1);
        Check.due("step", x.step(), 1);
        Check.due("deliver", x.deliver(0), 1);
        Check.due("page 0 changes while it is sent", x.run(0, 5), 2);
        Check.due("deliver", x.deliver(0), 3);
        Check.due("SEEN for a page that is due", x.told(5), 8);
        Guests.pages(x, 7);
        Check.due("not known", x.told(5), 1);
        Check.due("step", x.step(), 1);
        Check.due("page 0", x.piece(0, 2), 0);
        Check.due("serial", x.piece(0, 3), 9);
        Check.due("deliver", x.deliver(0), 1);
        Check.due("the word", x.memory(1, 5), 9);
    }

    private static void sameWordIsAChange() {
        MovingGuest x = Guests.on0(Code.store(0, 0, 63));
        Guests.movePages(x);
        Check.due("run", x.run(0, 5), 1);
        Check.due("0 in place of 0", x.told(5), 1);
        Check.due("step", x.step(), 1);
        Check.due("page 7", x.piece(0, 2), 7);
    }

    private static void wordsAsSent() {
        MovingGuest x = Guests.on0(Code.set(0, 9), Code.store(0, 1, 5));
        Check.due("move", x.move(), 1);
        Check.due("step", x.step(), 1);
        Check.due("run", x.run(0, 5), 2);
        Check.due("deliver", x.deliver(0), 1);
        Check.due("the word as it was sent", x.memory(1, 5), 0);
        Check.due("another word of the page", x.memory(1, 1), Code.store(0, 1, 5));
    }

    /** Eight steps are done, and pages from known on are not known, but sent. */
    private static MovingGuest afterEightSteps(int known) {
        MovingGuest x = Guests.on0(Code.jump(0));
        Check.due("move", x.move(), 1);
        Guests.pages(x, known);
        for (int i = known; i < 8; i++) {
            Check.due("step", x.step(), 1);
        }
        Check.due("not stopped yet", x.told(4), 0);
        Check.due("runs", x.run(0, 1), 1);
        return x;
    }

    private static void stopsWithTwoUnknown() {
        MovingGuest x = afterEightSteps(6);
        Check.due("step", x.step(), 3);
        Check.due("stopped", x.told(4), 1);
        Check.due("run", x.run(0, 1), NO);
        Check.due("step", x.step(), 1);
        Check.due("step", x.step(), 1);
        Check.due("still stopped", x.told(4), 1);
    }

    private static void goesOnWithThreeUnknown() {
        MovingGuest x = afterEightSteps(5);
        Check.due("step", x.step(), 3);
        Check.due("not stopped", x.told(4), 0);
        Check.due("run", x.run(0, 1), 1);
    }

    private static void goesOnBeforeEightSteps() {
        MovingGuest x = Guests.on0(Code.jump(0));
        Check.due("move", x.move(), 1);
        Guests.pages(x, 7);
        Check.due("one page is not known", x.told(5), 1);
        Check.due("the eighth step", x.step(), 1);
        Check.due("not stopped", x.told(4), 0);
        Check.due("run", x.run(0, 1), 1);
        Check.due("the ninth step", x.step(), 3);
        Check.due("stopped", x.told(4), 1);
    }

    private static void stopsAfterFortySteps() {
        MovingGuest x = Guests.on0(Code.jump(0));
        Check.due("move", x.move(), 1);
        for (int i = 1; i <= 40; i++) {
            Check.due("step " + i, x.step(), i % 9 == 0 ? 3 : 1);
        }
        Check.due("steps", x.told(8), 40);
        Check.due("not stopped", x.told(4), 0);
        Check.due("run", x.run(0, 1), 1);
        Check.due("step 41", x.step(), 1);
        Check.due("stopped", x.told(4), 1);
        Check.due("run", x.run(0, 1), NO);
    }

    private static void stateAgain() {
        MovingGuest x = Guests.on0();
        Guests.movePages(x);
        Check.due("the state", x.step(), 2);
        Check.due("stopped", x.told(4), 1);
        Check.due("the state again", x.step(), 2);
        Check.due("pieces", x.told(6), 2);
        for (int k = 0; k < 2; k++) {
            Check.due("kind", x.piece(k, 0), 2);
            Check.due("move", x.piece(k, 1), 1);
            Check.due("page", x.piece(k, 2), 0);
            Check.due("serial", x.piece(k, 3), 0);
        }
        Check.due("steps", x.told(8), 10);
    }
}
