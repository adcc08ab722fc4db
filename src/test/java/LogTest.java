/** Promises 9 to 13 and 21 to 23: the log, and sponsors' slots. */
public final class LogTest {
    public static void main(String[] args) {
        Check.test("promise 9: blow", LogTest::blow);
        Check.test("promise 9: at most 80 entries", LogTest::entriesFull);
        Check.test("promise 10: strike", LogTest::strike);
        Check.test("promise 11: mend", LogTest::mend);
        Check.test("promise 12: promise", LogTest::promise);
        Check.test("promise 13: slot", LogTest::slot);
        Check.test("promise 13: at most 12 slots", LogTest::slotsFull);
        Check.test("promises 15 and 21: owed most, of several the lowest", LogTest::owedMost);
        Check.test("promises 15 and 21: slots of one of both players", LogTest::slotsOfBoth);
        Check.test("promises 21 and 22: a replay uncounts", LogTest::replayUncounts);
        Check.test("promise 21: counted", LogTest::counted);
        Check.test("promise 22: countedAnew", LogTest::countedAnew);
        Check.test("promise 23: owed", LogTest::owed);
        Check.end();
    }

    private static Castdesk onAir() {
        Castdesk x = new Castdesk();
        x.fight(0, 1);
        x.camera(60, 0);
        return x;
    }

    private static void blow() {
        Castdesk x = new Castdesk();
        x.fight(0, 1);
        x.fight(2, 3);
        Check.due(0, x.blow(0, 0, 1));
        Check.due(1, x.blow(1, 3, 9));
        Check.due(2, x.blow(0, 1, 5));
        Check.outOfBounds(() -> x.blow(-1, 0, 1));
        Check.outOfBounds(() -> x.blow(2, 0, 1));
        Check.outOfBounds(() -> x.blow(0, -1, 1));
        Check.outOfBounds(() -> x.blow(0, 10, 1));
        Check.outOfBounds(() -> x.blow(0, 10, 10));
        Check.badArgument(() -> x.blow(0, 0, 0));
        Check.badArgument(() -> x.blow(0, 0, 10));
        Check.badArgument(() -> x.blow(0, 2, 1));
        Check.badArgument(() -> x.blow(1, 0, 1));
        x.end(0);
        Check.outOfBounds(() -> x.blow(0, 10, 1));
        Check.badArgument(() -> x.blow(0, 0, 0));
        Check.badArgument(() -> x.blow(0, 2, 1));
        Check.badState(() -> x.blow(0, 0, 1));
        Check.due(3, x.blow(1, 2, 1));
        Check.due(1, x.points(0, 0));
        Check.due(5, x.points(0, 1));
        Check.due(1, x.points(1, 2));
        Check.due(9, x.points(1, 3));
    }

    private static void entriesFull() {
        Castdesk x = new Castdesk();
        x.fight(0, 1);
        for (int entry = 0; entry < 80; entry++) {
            Check.due(entry, x.blow(0, entry % 2, 1 + entry % 9));
        }
        Check.badState(() -> x.blow(0, 0, 1));
        Check.badArgument(() -> x.blow(0, 0, 10));
        x.strike(79);
        Check.badState(() -> x.blow(0, 0, 1));
        Check.outOfBounds(() -> x.strike(80));
        int ofFirst = 0;
        for (int entry = 0; entry < 80; entry += 2) {
            ofFirst += 1 + entry % 9;
        }
        Check.due(ofFirst, x.points(0, 0));
    }

    private static void strike() {
        Castdesk x = new Castdesk();
        x.fight(0, 1);
        x.blow(0, 0, 4);
        x.blow(0, 0, 5);
        x.blow(0, 1, 6);
        Check.outOfBounds(() -> x.strike(-1));
        Check.outOfBounds(() -> x.strike(3));
        Check.due(4, x.strike(0));
        Check.due(5, x.points(0, 0));
        Check.badState(() -> x.strike(0));
        Check.badState(() -> x.mend(0, 1));
        x.mend(1, 7);
        Check.due(7, x.strike(1));
        Check.due(0, x.points(0, 0));
        Check.due(6, x.points(0, 1));
        x.end(0);
        Check.badState(() -> x.strike(2));
        Check.due(6, x.points(0, 1));
        // An entry of another fight that is over does not keep this one from being struck.
        x.fight(0, 1);
        x.blow(1, 1, 3);
        Check.due(3, x.strike(3));
    }

    private static void mend() {
        Castdesk x = new Castdesk();
        x.fight(0, 1);
        x.blow(0, 0, 4);
        x.blow(0, 1, 6);
        Check.due(4, x.mend(0, 9));
        Check.due(9, x.mend(0, 1));
        Check.due(1, x.mend(0, 1));
        Check.due(1, x.points(0, 0));
        Check.outOfBounds(() -> x.mend(-1, 1));
        Check.outOfBounds(() -> x.mend(2, 1));
        Check.outOfBounds(() -> x.mend(2, 0));
        Check.badArgument(() -> x.mend(0, 0));
        Check.badArgument(() -> x.mend(0, 10));
        x.strike(0);
        Check.badArgument(() -> x.mend(0, 10));
        Check.badState(() -> x.mend(0, 9));
        Check.due(0, x.points(0, 0));
        x.end(0);
        Check.badArgument(() -> x.mend(1, 0));
        Check.badState(() -> x.mend(1, 9));
        Check.due(6, x.points(0, 1));
    }

    private static void promise() {
        Castdesk x = new Castdesk();
        Check.due(0, x.promise(0, 1000));
        Check.due(1000, x.promise(0, 0));
        Check.due(0, x.promise(5, 7));
        Check.due(7, x.promise(5, 8));
        Check.due(8, x.owed(5));
        Check.outOfBounds(() -> x.promise(-1, 0));
        Check.outOfBounds(() -> x.promise(6, 0));
        Check.outOfBounds(() -> x.promise(6, -1));
        Check.badArgument(() -> x.promise(5, -1));
        Check.badArgument(() -> x.promise(5, 1001));
        Check.due(8, x.promise(5, 8));
    }

    private static void slot() {
        Castdesk x = new Castdesk();
        Check.due(1, x.slot(0, 0));
        Check.due(2, x.slot(0, 9));
        Check.due(3, x.slot(5, 0));
        Check.due(4, x.slot(5, 9));
        Check.badState(() -> x.slot(0, 0));
        Check.badState(() -> x.slot(5, 9));
        Check.outOfBounds(() -> x.slot(-1, 0));
        Check.outOfBounds(() -> x.slot(6, 0));
        Check.outOfBounds(() -> x.slot(0, -1));
        Check.outOfBounds(() -> x.slot(0, 10));
        Check.outOfBounds(() -> x.slot(0, 32));
        Check.due(5, x.slot(0, 1));
    }

    private static void slotsFull() {
        Castdesk x = new Castdesk();
        for (int i = 0; i < 12; i++) {
            Check.due(i + 1, x.slot(i % 6, i % 10));
        }
        Check.badState(() -> x.slot(5, 6));
        Check.badState(() -> x.slot(0, 0));
        Check.outOfBounds(() -> x.slot(6, 0));
        Check.outOfBounds(() -> x.slot(0, 10));
    }

    private static void owedMost() {
        Castdesk x = onAir();
        x.promise(1, 3);
        x.promise(3, 4);
        x.promise(4, 4);
        x.promise(5, 50);
        x.slot(1, 1);
        x.slot(3, 0);
        x.slot(4, 0);
        x.slot(5, 2);
        x.pass(13);
        int[] due = {3, 4, 1, 3, 4, 1, 3, 4, 1, 3, 4, Castdesk.NONE, Castdesk.NONE};
        for (int frame = 0; frame < due.length; frame++) {
            Check.due("shown(" + frame + ", 2)", due[frame], x.shown(frame, 2));
        }
        // A promise told behind frames does not change what they count for.
        x.promise(1, 5);
        Check.due(Castdesk.NONE, x.shown(12, 2));
        x.pass(3);
        Check.due(1, x.shown(13, 2));
        Check.due(1, x.shown(14, 2));
        Check.due(Castdesk.NONE, x.shown(15, 2));
        Check.due(50, x.owed(5));
    }

    private static void slotsOfBoth() {
        Castdesk x = onAir();
        x.promise(0, 10);
        x.promise(1, 5);
        x.slot(0, 2);
        x.slot(1, 1);
        x.pass(1);
        Check.due(1, x.shown(0, 2));
        x.end(0);
        x.fight(2, 3);
        x.pass(1);
        Check.due(0, x.shown(1, 2));
        x.end(1);
        x.fight(3, 2);
        x.pass(1);
        Check.due(0, x.shown(2, 2));
        x.end(2);
        x.fight(3, 4);
        x.pass(1);
        Check.due(3, x.shown(3, 0));
        Check.due(Castdesk.NONE, x.shown(3, 2));
        x.slot(0, 4);
        Check.due(Castdesk.NONE, x.shown(3, 2));
        x.pass(1);
        Check.due(0, x.shown(4, 2));
    }

    private static void replayUncounts() {
        Castdesk x = onAir();
        x.promise(0, 4);
        x.promise(1, 9);
        x.slot(0, 0);
        x.slot(1, 2);
        x.pass(2);
        x.end(0);
        x.fight(2, 3);
        x.pass(3);
        x.end(1);
        x.replay(0);
        // The first fight's frames are struck, those of others stay as they were.
        Check.due(0, x.counted(0));
        Check.due(0, x.countedAnew(0));
        Check.due(4, x.owed(0));
        Check.due(3, x.counted(1));
        Check.due(3, x.countedAnew(1));
        Check.due(6, x.owed(1));
        Check.due(Castdesk.NONE, x.shown(0, 2));
        Check.due(Castdesk.NONE, x.shown(1, 2));
        Check.due(0, x.shown(1, 0));
        Check.due(0, x.shown(1, 1));
        Check.due(1, x.shown(2, 2));
        Check.due(2, x.fightOf(0, 4));
        // They are made good in the replay.
        x.pass(5);
        Check.due(4, x.counted(0));
        Check.due(4, x.countedAnew(0));
        Check.due(0, x.shown(5, 2));
        Check.due(0, x.shown(8, 2));
        Check.due(Castdesk.NONE, x.shown(9, 2));
        Check.due(Castdesk.NONE, x.shown(0, 2));
    }

    private static void checkSponsors(Castdesk x) {
        Check.outOfBounds(() -> x.counted(-1));
        Check.outOfBounds(() -> x.counted(6));
        Check.outOfBounds(() -> x.countedAnew(-1));
        Check.outOfBounds(() -> x.countedAnew(6));
        Check.outOfBounds(() -> x.owed(-1));
        Check.outOfBounds(() -> x.owed(6));
    }

    private static void counted() {
        Castdesk x = onAir();
        checkSponsors(x);
        x.promise(5, 30);
        x.slot(5, 1);
        x.pass(20);
        Check.due(20, x.counted(5));
        Check.due(0, x.counted(0));
        x.pass(20);
        Check.due(30, x.counted(5));
        // A lower promise takes no frame back.
        x.promise(5, 1);
        Check.due(30, x.counted(5));
        checkSponsors(x);
    }

    private static void countedAnew() {
        Castdesk x = onAir();
        x.promise(5, 70);
        x.promise(0, 7);
        x.slot(5, 1);
        x.slot(0, 0);
        x.pass(65);
        Check.due(63, x.countedAnew(5));
        Check.due(1, x.countedAnew(0));
        Check.due(0, x.countedAnew(1));
        x.pass(50);
        Check.due(70, x.countedAnew(5));
        Check.due(7, x.countedAnew(0));
    }

    private static void owed() {
        Castdesk x = onAir();
        x.promise(2, 5);
        x.promise(3, 5);
        x.slot(2, 0);
        Check.due(5, x.owed(2));
        x.pass(3);
        Check.due(2, x.owed(2));
        Check.due(5, x.owed(3));
        x.promise(2, 2);
        Check.due(0, x.owed(2));
        x.promise(2, 4);
        Check.due(1, x.owed(2));
        x.pass(10);
        Check.due(0, x.owed(2));
        Check.due(4, x.counted(2));
    }
}
