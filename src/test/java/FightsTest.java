/** Promises 1 to 5, 17, 19 and 24: a new object, ranks, fights, and who won them. */
public final class FightsTest {
    public static void main(String[] args) {
        Check.test("promise 1: a new object", FightsTest::newObject);
        Check.test("promise 1: objects are apart", FightsTest::objectsApart);
        Check.test("promise 2: rank", FightsTest::rank);
        Check.test("promise 3: fight", FightsTest::fight);
        Check.test("promise 3: fight refused", FightsTest::fightRefused);
        Check.test("promise 3: at most 20 fights", FightsTest::fightsFull);
        Check.test("promise 4: end", FightsTest::end);
        Check.test("promise 4: end counts entries that stand", FightsTest::endWithCorrections);
        Check.test("promise 5: replay", FightsTest::replay);
        Check.test("promise 5: replay refused", FightsTest::replayRefused);
        Check.test("promise 5: replay of one of several", FightsTest::replayOneOfSeveral);
        Check.test("promise 5: a replay is replayed", FightsTest::replayAgain);
        Check.test("promise 17: points", FightsTest::points);
        Check.test("promise 19: fightOf", FightsTest::fightOf);
        Check.test("promise 24: leader", FightsTest::leader);
        Check.test("promise 24: leader of all ten", FightsTest::leaderOfAll);
        Check.end();
    }

    private static void newObject() {
        Castdesk x = new Castdesk();
        Check.due(0, x.frame());
        Check.due(Castdesk.NONE, x.seen());
        Check.outOfBounds(() -> x.shown(0, 0));
        Check.outOfBounds(() -> x.fightOf(0, 0));
        Check.outOfBounds(() -> x.cameraOf(0, 0));
        Check.outOfBounds(() -> x.points(0, 0));
        Check.outOfBounds(() -> x.strike(0));
        for (int sponsor = 0; sponsor < 6; sponsor++) {
            Check.due(0, x.counted(sponsor));
            Check.due(0, x.countedAnew(sponsor));
            Check.due(0, x.owed(sponsor));
            Check.due(0, x.promise(sponsor, 0));
        }
        for (int player = 0; player < 10; player++) {
            Check.due(player, x.leader(player));
            Check.due(0, x.rank(player, 0));
        }
        Check.due(10, x.delay(10));
        Check.due(1, x.slot(0, 0));
        Check.due(0, x.camera(1, 0));
        Check.due(0, x.fight(0, 1));
        Check.due(0, x.blow(0, 0, 1));
        Check.due(-1, Castdesk.NONE);
        Check.due(0, Castdesk.GOING);
        Check.due(1, Castdesk.OVER);
        Check.due(2, Castdesk.REPLAYED);
    }

    private static void objectsApart() {
        Castdesk x = new Castdesk();
        Castdesk y = new Castdesk();
        x.fight(0, 1);
        x.camera(5, 5);
        x.rank(3, 7);
        x.promise(2, 9);
        x.slot(2, 0);
        x.blow(0, 0, 4);
        x.pass(20);
        x.end(0);
        Check.due(0, y.frame());
        Check.due(Castdesk.NONE, y.seen());
        Check.due(0, y.rank(3, 0));
        Check.due(0, y.promise(2, 0));
        Check.due(0, y.counted(2));
        Check.due(1, y.slot(2, 0));
        Check.due(0, y.fight(0, 1));
        Check.due(0, y.points(0, 0));
        Check.due(0, y.fightOf(0, 4));
    }

    private static void rank() {
        Castdesk x = new Castdesk();
        Check.due(0, x.rank(0, 99));
        Check.due(99, x.rank(0, 0));
        Check.due(0, x.rank(0, 5));
        Check.due(0, x.rank(9, 1));
        Check.due(1, x.rank(9, 2));
        Check.outOfBounds(() -> x.rank(-1, 0));
        Check.outOfBounds(() -> x.rank(10, 0));
        Check.outOfBounds(() -> x.rank(Integer.MIN_VALUE, 100));
        Check.outOfBounds(() -> x.rank(Integer.MAX_VALUE, -1));
        Check.badArgument(() -> x.rank(9, -1));
        Check.badArgument(() -> x.rank(9, 100));
        Check.badArgument(() -> x.rank(0, Integer.MAX_VALUE));
        Check.due(2, x.rank(9, 3));
        Check.due(5, x.rank(0, 5));
    }

    private static void fight() {
        Castdesk x = new Castdesk();
        Check.due(0, x.fight(0, 9));
        Check.due(1, x.fight(8, 1));
        Check.due(Castdesk.GOING, x.fightOf(1, 0));
        Check.due(8, x.fightOf(1, 1));
        Check.due(1, x.fightOf(1, 2));
        x.end(0);
        Check.due(2, x.fight(9, 0));
        Check.due(9, x.fightOf(2, 1));
    }

    private static void fightRefused() {
        Castdesk x = new Castdesk();
        x.fight(0, 1);
        Check.outOfBounds(() -> x.fight(-1, 2));
        Check.outOfBounds(() -> x.fight(2, -1));
        Check.outOfBounds(() -> x.fight(10, 2));
        Check.outOfBounds(() -> x.fight(2, 10));
        Check.outOfBounds(() -> x.fight(10, 10));
        Check.outOfBounds(() -> x.fight(0, Integer.MIN_VALUE));
        Check.badArgument(() -> x.fight(2, 2));
        Check.badArgument(() -> x.fight(0, 0));
        Check.badState(() -> x.fight(0, 1));
        Check.badState(() -> x.fight(0, 2));
        Check.badState(() -> x.fight(2, 0));
        Check.badState(() -> x.fight(1, 2));
        Check.badState(() -> x.fight(2, 1));
        Check.due(1, x.fight(2, 3));
        Check.badState(() -> x.fight(4, 3));
        x.end(0);
        Check.due(2, x.fight(1, 4));
    }

    private static void fightsFull() {
        Castdesk x = new Castdesk();
        for (int number = 0; number < 20; number++) {
            Check.due(number, x.fight(0, 1));
            Check.due(Castdesk.NONE, x.end(number));
        }
        Check.badState(() -> x.fight(0, 1));
        Check.badState(() -> x.replay(0));
        Check.badArgument(() -> x.fight(1, 1));
        Check.outOfBounds(() -> x.fightOf(20, 0));
        Check.due(Castdesk.OVER, x.fightOf(0, 0));
        Check.due(Castdesk.OVER, x.fightOf(19, 0));
    }

    private static void end() {
        Castdesk x = new Castdesk();
        x.fight(4, 2);
        x.fight(5, 6);
        x.fight(7, 8);
        x.blow(0, 2, 9);
        x.blow(0, 4, 1);
        x.blow(1, 5, 3);
        x.blow(1, 6, 2);
        x.blow(2, 7, 4);
        x.blow(2, 8, 4);
        Check.outOfBounds(() -> x.end(-1));
        Check.outOfBounds(() -> x.end(3));
        Check.outOfBounds(() -> x.end(Integer.MAX_VALUE));
        Check.due(2, x.end(0));
        Check.due(5, x.end(1));
        Check.due(Castdesk.NONE, x.end(2));
        Check.due(2, x.fightOf(0, 3));
        Check.due(5, x.fightOf(1, 3));
        Check.due(Castdesk.NONE, x.fightOf(2, 3));
        for (int fight = 0; fight < 3; fight++) {
            int over = fight;
            Check.due(Castdesk.OVER, x.fightOf(fight, 0));
            Check.badState(() -> x.end(over));
        }
        x.replay(0);
        Check.badState(() -> x.end(0));
    }

    private static void endWithCorrections() {
        Castdesk x = new Castdesk();
        x.fight(0, 1);
        x.blow(0, 0, 9);
        x.blow(0, 0, 1);
        x.blow(0, 1, 2);
        x.blow(0, 1, 1);
        x.strike(0);
        Check.due(1, x.end(0));
        x.fight(0, 1);
        x.blow(1, 0, 1);
        x.blow(1, 1, 2);
        x.mend(4, 3);
        Check.due(0, x.end(1));
    }

    private static void replay() {
        Castdesk x = new Castdesk();
        x.camera(60, 0);
        x.fight(3, 1);
        x.blow(0, 1, 5);
        x.pass(12);
        Check.due(5, x.overlay(0, 1));
        x.end(0);
        Check.due(1, x.replay(0));
        Check.due(Castdesk.REPLAYED, x.fightOf(0, 0));
        Check.due(Castdesk.NONE, x.fightOf(0, 3));
        Check.due(12, x.fightOf(0, 4));
        Check.due(0, x.points(0, 1));
        Check.due(0, x.overlay(0, 1));
        Check.badState(() -> x.strike(0));
        Check.badState(() -> x.mend(0, 1));
        Check.badState(() -> x.blow(0, 1, 1));
        Check.due(Castdesk.GOING, x.fightOf(1, 0));
        Check.due(3, x.fightOf(1, 1));
        Check.due(1, x.fightOf(1, 2));
        Check.due(0, x.fightOf(1, 4));
        Check.due(0, x.points(1, 1));
        x.pass(1);
        Check.due(1, x.shown(12, 0));
        Check.due(0, x.shown(11, 0));
    }

    private static void replayRefused() {
        Castdesk x = new Castdesk();
        x.fight(0, 1);
        Check.outOfBounds(() -> x.replay(-1));
        Check.outOfBounds(() -> x.replay(1));
        Check.badState(() -> x.replay(0));
        x.blow(0, 0, 3);
        x.end(0);
        x.fight(0, 2);
        Check.badState(() -> x.replay(0));
        x.end(1);
        x.fight(3, 1);
        Check.badState(() -> x.replay(0));
        Check.due(Castdesk.OVER, x.fightOf(0, 0));
        Check.due(0, x.fightOf(0, 3));
        Check.due(3, x.points(0, 0));
        x.end(2);
        Check.due(3, x.replay(0));
        Check.badState(() -> x.replay(0));
        x.end(3);
        Check.badState(() -> x.replay(0));
    }

    private static void replayOneOfSeveral() {
        Castdesk x = new Castdesk();
        x.fight(0, 1);
        x.blow(0, 0, 3);
        x.end(0);
        x.fight(0, 1);
        x.blow(1, 0, 4);
        x.blow(1, 1, 5);
        x.end(1);
        x.replay(0);
        Check.due(0, x.points(0, 0));
        Check.due(4, x.points(1, 0));
        Check.due(5, x.points(1, 1));
        Check.due(Castdesk.OVER, x.fightOf(1, 0));
        Check.due(1, x.fightOf(1, 3));
    }

    private static void replayAgain() {
        Castdesk x = new Castdesk();
        x.fight(0, 1);
        x.end(0);
        Check.due(1, x.replay(0));
        Check.due(Castdesk.NONE, x.end(1));
        Check.due(2, x.replay(1));
        Check.due(Castdesk.REPLAYED, x.fightOf(1, 0));
        Check.badState(() -> x.replay(1));
    }

    private static void points() {
        Castdesk x = new Castdesk();
        x.fight(0, 1);
        x.fight(2, 3);
        x.blow(0, 0, 9);
        x.blow(0, 0, 8);
        x.blow(0, 1, 1);
        x.blow(1, 2, 7);
        Check.due(17, x.points(0, 0));
        Check.due(1, x.points(0, 1));
        Check.due(0, x.points(0, 2));
        Check.due(7, x.points(1, 2));
        Check.due(0, x.points(1, 3));
        Check.due(0, x.points(1, 9));
        x.end(0);
        Check.due(17, x.points(0, 0));
        x.fight(0, 4);
        Check.due(0, x.points(2, 0));
        Check.outOfBounds(() -> x.points(-1, 0));
        Check.outOfBounds(() -> x.points(3, 0));
        Check.outOfBounds(() -> x.points(0, -1));
        Check.outOfBounds(() -> x.points(0, 10));
    }

    private static void fightOf() {
        Castdesk x = new Castdesk();
        x.fight(6, 3);
        x.camera(60, 0);
        x.pass(7);
        x.blow(0, 3, 2);
        Check.due(Castdesk.GOING, x.fightOf(0, 0));
        Check.due(6, x.fightOf(0, 1));
        Check.due(3, x.fightOf(0, 2));
        Check.due(Castdesk.NONE, x.fightOf(0, 3));
        Check.due(7, x.fightOf(0, 4));
        x.end(0);
        x.pass(7);
        Check.due(Castdesk.OVER, x.fightOf(0, 0));
        Check.due(3, x.fightOf(0, 3));
        Check.due(7, x.fightOf(0, 4));
        Check.outOfBounds(() -> x.fightOf(-1, 0));
        Check.outOfBounds(() -> x.fightOf(1, 0));
        Check.outOfBounds(() -> x.fightOf(1, 5));
        Check.badArgument(() -> x.fightOf(0, -1));
        Check.badArgument(() -> x.fightOf(0, 5));
        Check.badArgument(() -> x.fightOf(0, Integer.MIN_VALUE));
    }

    private static void leader() {
        Castdesk x = new Castdesk();
        win(x, 0, 7, 2);
        Check.due(7, x.leader(0));
        Check.due(0, x.leader(1));
        win(x, 1, 5, 2);
        Check.due(5, x.leader(0));
        Check.due(7, x.leader(1));
        win(x, 2, 7, 5);
        Check.due(7, x.leader(0));
        Check.due(5, x.leader(1));
        Check.due(0, x.leader(2));
        Check.due(9, x.leader(9));
        // Fights that are REPLAYED are not OVER any more.
        x.replay(2);
        Check.due(5, x.leader(0));
        x.end(3);
        x.replay(0);
        Check.due(5, x.leader(0));
        Check.due(0, x.leader(1));
        Check.due(7, x.leader(7));
        // Those that go on are not OVER yet, whatever their points.
        x.blow(4, 2, 9);
        Check.due(5, x.leader(0));
        Check.outOfBounds(() -> x.leader(-1));
        Check.outOfBounds(() -> x.leader(10));
        Check.outOfBounds(() -> x.leader(Integer.MAX_VALUE));
    }

    private static void leaderOfAll() {
        Castdesk x = new Castdesk();
        int[] winners = {9, 9, 9, 4, 4, 6, 6, 1};
        for (int number = 0; number < winners.length; number++) {
            win(x, number, winners[number], 0);
        }
        int[] due = {9, 4, 6, 1, 0, 2, 3, 5, 7, 8};
        for (int place = 0; place < 10; place++) {
            Check.due("leader(" + place + ")", due[place], x.leader(place));
        }
    }

    private static void win(Castdesk x, int number, int winner, int loser) {
        Check.due(number, x.fight(winner, loser));
        x.blow(number, winner, 1);
        Check.due(winner, x.end(number));
    }
}
