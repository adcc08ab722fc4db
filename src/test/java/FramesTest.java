/** Promises 6 to 8, 14 to 16, 18 and 20: cameras, the delay, what is shown and seen. */
public final class FramesTest {
    public static void main(String[] args) {
        Check.test("promise 6: camera", FramesTest::camera);
        Check.test("promise 7: delay", FramesTest::delay);
        Check.test("promise 8: pass", FramesTest::pass);
        Check.test("promise 8: up to frame 3000", FramesTest::passToTheEnd);
        Check.test("promises 8 and 15: heat of ranks", FramesTest::heatOfRanks);
        Check.test("promises 8 and 15: heat of blows", FramesTest::heatOfBlows);
        Check.test("promises 8 and 15: a frame of blows heats once", FramesTest::heatOncePerFrame);
        Check.test("promises 8 and 15: heat of struck blows", FramesTest::heatOfStruckBlows);
        Check.test("promises 8 and 15: like heat", FramesTest::likeHeat);
        Check.test("promises 8 and 15: nothing shown", FramesTest::nothingShown);
        Check.test("promise 14: frame", FramesTest::frame);
        Check.test("promise 15: shown refused", FramesTest::shownRefused);
        Check.test("promises 7 and 16: seen", FramesTest::seen);
        Check.test("promise 18: overlay", FramesTest::overlay);
        Check.test("promise 20: cameraOf", FramesTest::cameraOf);
        Check.test("promise 20: rest 0 is one frame", FramesTest::restOfOne);
        Check.test("promise 20: a run begins anew", FramesTest::runBeginsAnew);
        Check.test("promise 20: the lowest that can", FramesTest::lowestThatCan);
        Check.test("promise 20: rests go on without a fight", FramesTest::restWithoutFight);
        Check.end();
    }

    private static Castdesk oneFight() {
        Castdesk x = new Castdesk();
        x.fight(0, 1);
        return x;
    }

    private static Castdesk twoFights() {
        Castdesk x = oneFight();
        x.fight(2, 3);
        x.camera(60, 0);
        return x;
    }

    private static void shownIs(Castdesk x, int frame, int fight, int camera) {
        Check.due("shown(" + frame + ", 0)", fight, x.shown(frame, 0));
        Check.due("shown(" + frame + ", 1)", camera, x.shown(frame, 1));
    }

    private static void camera() {
        Castdesk x = new Castdesk();
        Check.badArgument(() -> x.camera(0, 0));
        Check.badArgument(() -> x.camera(61, 0));
        Check.badArgument(() -> x.camera(1, -1));
        Check.badArgument(() -> x.camera(1, 61));
        Check.badArgument(() -> x.camera(Integer.MIN_VALUE, Integer.MAX_VALUE));
        Check.due(0, x.camera(1, 0));
        Check.due(1, x.camera(60, 60));
        Check.due(2, x.camera(1, 60));
        Check.due(3, x.camera(60, 0));
        Check.due(4, x.camera(1, 1));
        Check.due(5, x.camera(1, 1));
        Check.badState(() -> x.camera(1, 1));
        Check.badArgument(() -> x.camera(0, 1));
        Check.outOfBounds(() -> x.cameraOf(6, 0));
    }

    private static void delay() {
        Castdesk x = new Castdesk();
        Check.due(10, x.delay(0));
        Check.due(0, x.delay(100));
        Check.due(100, x.delay(3));
        Check.badArgument(() -> x.delay(-1));
        Check.badArgument(() -> x.delay(101));
        Check.badArgument(() -> x.delay(Integer.MIN_VALUE));
        Check.due(3, x.delay(3));
    }

    private static void pass() {
        Castdesk x = new Castdesk();
        Check.badArgument(() -> x.pass(0));
        Check.badArgument(() -> x.pass(-1));
        Check.badArgument(() -> x.pass(201));
        Check.badArgument(() -> x.pass(Integer.MAX_VALUE));
        Check.due(0, x.frame());
        Check.due(1, x.pass(1));
        Check.due(201, x.pass(200));
        Check.due(203, x.pass(2));
    }

    private static void passToTheEnd() {
        Castdesk x = twoFights();
        for (int i = 1; i <= 14; i++) {
            Check.due(200 * i, x.pass(200));
        }
        Check.due(2999, x.pass(199));
        Check.badState(() -> x.pass(2));
        Check.badState(() -> x.pass(200));
        Check.badArgument(() -> x.pass(201));
        Check.due(2999, x.frame());
        Check.due(3000, x.pass(1));
        Check.badState(() -> x.pass(1));
        Check.badArgument(() -> x.pass(0));
        Check.due(3000, x.frame());
        Check.due(2989, x.seen());
        // Rest 0 is one frame in which the camera has to be off, each 61st.
        shownIs(x, 2987, 0, 0);
        shownIs(x, 2988, Castdesk.NONE, Castdesk.NONE);
        shownIs(x, 2989, 0, 0);
        shownIs(x, 2999, 0, 0);
        Check.outOfBounds(() -> x.shown(3000, 0));
        Check.due(3000 - 49, x.fightOf(0, 4));
        Check.due(0, x.blow(1, 2, 3));
        Check.due(3, x.points(1, 2));
        Check.due(10, x.delay(0));
        Check.due(2999, x.seen());
        Check.due(0, x.overlay(1, 2));
        Check.due(2, x.end(1));
    }

    private static void heatOfRanks() {
        Castdesk x = twoFights();
        x.rank(2, 1);
        x.pass(1);
        shownIs(x, 0, 1, 0);
        x.rank(0, 1);
        x.rank(1, 1);
        x.pass(1);
        shownIs(x, 1, 0, 0);
        x.rank(3, 99);
        x.pass(1);
        shownIs(x, 2, 1, 0);
        x.rank(3, 0);
        x.pass(1);
        shownIs(x, 3, 0, 0);
    }

    private static void heatOfBlows() {
        Castdesk x = twoFights();
        x.rank(0, 9);
        x.blow(1, 2, 1);
        x.pass(7);
        // The blow's own frame does not heat, the 5 behind it do.
        shownIs(x, 0, 0, 0);
        for (int frame = 1; frame <= 5; frame++) {
            shownIs(x, frame, 1, 0);
        }
        shownIs(x, 6, 0, 0);

        Castdesk z = twoFights();
        z.rank(2, 9);
        z.blow(0, 0, 1);
        z.pass(7);
        for (int frame = 0; frame < 7; frame++) {
            shownIs(z, frame, frame >= 1 && frame <= 5 ? 0 : 1, 0);
        }

        // The heat of a frame is 10: like that of ranks of 10, of which the one that was shown goes on.
        Castdesk w = twoFights();
        w.rank(0, 10);
        w.blow(1, 2, 1);
        w.pass(2);
        shownIs(w, 1, 0, 0);

        Castdesk y = twoFights();
        y.rank(0, 49);
        for (int i = 0; i < 5; i++) {
            y.blow(1, 3, 1);
            y.pass(1);
        }
        y.pass(2);
        for (int frame = 0; frame < 7; frame++) {
            shownIs(y, frame, frame == 5 ? 1 : 0, 0);
        }
    }

    private static void heatOncePerFrame() {
        Castdesk x = twoFights();
        x.rank(0, 11);
        x.blow(1, 2, 9);
        x.blow(1, 3, 9);
        x.blow(1, 2, 9);
        x.pass(1);
        x.pass(1);
        shownIs(x, 1, 0, 0);
        x.blow(1, 2, 9);
        x.pass(2);
        shownIs(x, 2, 0, 0);
        shownIs(x, 3, 1, 0);
    }

    private static void heatOfStruckBlows() {
        Castdesk x = twoFights();
        x.rank(0, 9);
        x.blow(1, 2, 1);
        x.strike(0);
        x.pass(7);
        for (int frame = 0; frame < 7; frame++) {
            shownIs(x, frame, frame >= 1 && frame <= 5 ? 1 : 0, 0);
        }
        // What the first fight was heated by does not heat its replay.
        x.blow(1, 2, 1);
        x.end(1);
        x.replay(1);
        x.pass(2);
        shownIs(x, 8, 0, 0);
    }

    private static void likeHeat() {
        Castdesk x = twoFights();
        x.fight(4, 5);
        x.pass(1);
        shownIs(x, 0, 0, 0);
        x.rank(4, 1);
        x.pass(1);
        shownIs(x, 1, 2, 0);
        // Fight 2 was shown ahead, so it goes on among those of like heat.
        x.rank(4, 0);
        x.pass(1);
        shownIs(x, 2, 2, 0);
        // With fight 1 hotter by as much, fight 2 is not among the greatest.
        x.rank(2, 1);
        x.rank(0, 1);
        x.pass(1);
        shownIs(x, 3, 0, 0);
        x.end(0);
        x.pass(1);
        shownIs(x, 4, 1, 0);

        // Frame 0 is ahead of frame 1 as others are.
        Castdesk y = twoFights();
        y.rank(2, 1);
        y.pass(1);
        y.rank(2, 0);
        y.pass(1);
        shownIs(y, 0, 1, 0);
        shownIs(y, 1, 1, 0);
    }

    private static void nothingShown() {
        Castdesk x = oneFight();
        x.promise(0, 100);
        x.slot(0, 0);
        x.pass(2);
        shownIs(x, 1, Castdesk.NONE, Castdesk.NONE);
        Check.due(Castdesk.NONE, x.shown(1, 2));
        Check.due(0, x.fightOf(0, 4));
        Check.due(0, x.counted(0));
        x.camera(2, 3);
        x.pass(6);
        shownIs(x, 2, 0, 0);
        shownIs(x, 3, 0, 0);
        for (int frame = 4; frame < 7; frame++) {
            shownIs(x, frame, Castdesk.NONE, Castdesk.NONE);
            Check.due(Castdesk.NONE, x.shown(frame, 2));
        }
        shownIs(x, 7, 0, 0);
        Check.due(3, x.fightOf(0, 4));
        Check.due(3, x.counted(0));
        x.end(0);
        x.pass(1);
        shownIs(x, 8, Castdesk.NONE, Castdesk.NONE);
        Check.due(Castdesk.NONE, x.shown(8, 2));

        // Behind a frame in which nothing was shown the lowest of like heat is.
        Castdesk y = oneFight();
        y.fight(2, 3);
        y.camera(1, 1);
        y.rank(2, 1);
        y.pass(2);
        y.rank(2, 0);
        y.pass(1);
        shownIs(y, 0, 1, 0);
        shownIs(y, 1, Castdesk.NONE, Castdesk.NONE);
        shownIs(y, 2, 0, 0);
    }

    private static void frame() {
        Castdesk x = new Castdesk();
        Check.due(0, x.frame());
        x.pass(5);
        Check.due(5, x.frame());
        x.pass(200);
        Check.due(205, x.frame());
        x.delay(50);
        x.fight(0, 1);
        Check.due(205, x.frame());
    }

    private static void shownRefused() {
        Castdesk x = twoFights();
        Check.outOfBounds(() -> x.shown(0, 0));
        x.pass(3);
        Check.due(0, x.shown(2, 0));
        Check.outOfBounds(() -> x.shown(3, 0));
        Check.outOfBounds(() -> x.shown(-1, 0));
        Check.outOfBounds(() -> x.shown(Integer.MAX_VALUE, 0));
        Check.outOfBounds(() -> x.shown(3, 3));
        Check.badArgument(() -> x.shown(2, 3));
        Check.badArgument(() -> x.shown(2, -1));
        Check.badArgument(() -> x.shown(0, Integer.MAX_VALUE));
    }

    private static void seen() {
        Castdesk x = new Castdesk();
        x.pass(10);
        Check.due(Castdesk.NONE, x.seen());
        x.pass(1);
        Check.due(0, x.seen());
        x.pass(5);
        Check.due(5, x.seen());
        // A longer delay takes nothing back, and a shorter one lets more be seen at once.
        x.delay(12);
        Check.due(5, x.seen());
        x.pass(2);
        Check.due(5, x.seen());
        x.pass(1);
        Check.due(6, x.seen());
        x.delay(3);
        Check.due(15, x.seen());
        x.delay(0);
        Check.due(18, x.seen());
        x.delay(100);
        x.pass(100);
        Check.due(18, x.seen());
        x.pass(1);
        Check.due(19, x.seen());

        Castdesk y = new Castdesk();
        y.delay(0);
        Check.due(Castdesk.NONE, y.seen());
        y.pass(1);
        Check.due(0, y.seen());
    }

    private static void overlay() {
        Castdesk x = oneFight();
        x.fight(2, 3);
        x.delay(2);
        x.blow(0, 0, 4);
        x.pass(1);
        x.blow(0, 0, 2);
        x.blow(0, 1, 9);
        x.blow(1, 2, 1);
        x.pass(1);
        Check.due(0, x.overlay(0, 0));
        x.pass(1);
        Check.due(4, x.overlay(0, 0));
        Check.due(0, x.overlay(0, 1));
        x.pass(1);
        Check.due(6, x.overlay(0, 0));
        Check.due(9, x.overlay(0, 1));
        Check.due(0, x.overlay(0, 2));
        Check.due(1, x.overlay(1, 2));
        Check.due(0, x.overlay(1, 0));
        // They are shown as they are corrected now.
        x.mend(0, 7);
        Check.due(9, x.overlay(0, 0));
        x.strike(1);
        Check.due(7, x.overlay(0, 0));
        x.blow(0, 1, 5);
        Check.due(9, x.overlay(0, 1));
        Check.due(14, x.points(0, 1));
        x.end(0);
        Check.due(7, x.overlay(0, 0));
        x.pass(3);
        Check.due(14, x.overlay(0, 1));
        Check.outOfBounds(() -> x.overlay(-1, 0));
        Check.outOfBounds(() -> x.overlay(2, 0));
        Check.outOfBounds(() -> x.overlay(0, -1));
        Check.outOfBounds(() -> x.overlay(0, 10));
    }

    private static void cameraIs(Castdesk x, int camera, int onAir, int toBeOff) {
        Check.due("cameraOf(" + camera + ", 0)", onAir, x.cameraOf(camera, 0));
        Check.due("cameraOf(" + camera + ", 1)", toBeOff, x.cameraOf(camera, 1));
    }

    private static void cameraOf() {
        Castdesk x = oneFight();
        x.camera(3, 2);
        cameraIs(x, 0, 0, 0);
        x.pass(1);
        cameraIs(x, 0, 1, 0);
        x.pass(1);
        cameraIs(x, 0, 2, 0);
        x.pass(1);
        cameraIs(x, 0, 3, 2);
        x.pass(1);
        cameraIs(x, 0, 0, 1);
        x.pass(1);
        cameraIs(x, 0, 0, 0);
        x.pass(1);
        cameraIs(x, 0, 1, 0);
        Check.outOfBounds(() -> x.cameraOf(-1, 0));
        Check.outOfBounds(() -> x.cameraOf(1, 0));
        Check.outOfBounds(() -> x.cameraOf(1, 2));
        Check.badArgument(() -> x.cameraOf(0, -1));
        Check.badArgument(() -> x.cameraOf(0, 2));
    }

    private static void restOfOne() {
        for (int rest = 0; rest <= 1; rest++) {
            Castdesk x = oneFight();
            x.camera(2, rest);
            x.pass(2);
            cameraIs(x, 0, 2, 1);
            x.pass(1);
            cameraIs(x, 0, 0, 0);
            shownIs(x, 2, Castdesk.NONE, Castdesk.NONE);
            x.pass(1);
            shownIs(x, 3, 0, 0);
        }
        Castdesk y = oneFight();
        y.camera(60, 60);
        y.pass(60);
        cameraIs(y, 0, 60, 60);
        y.pass(60);
        cameraIs(y, 0, 0, 0);
        Check.due(60, y.fightOf(0, 4));
        y.pass(1);
        shownIs(y, 120, 0, 0);
    }

    private static void runBeginsAnew() {
        Castdesk x = oneFight();
        x.camera(3, 5);
        x.pass(2);
        x.end(0);
        x.pass(1);
        cameraIs(x, 0, 0, 0);
        x.fight(0, 1);
        x.pass(3);
        cameraIs(x, 0, 3, 5);
        shownIs(x, 5, 1, 0);
    }

    private static void lowestThatCan() {
        Castdesk x = oneFight();
        x.camera(1, 1);
        x.camera(2, 4);
        x.camera(3, 0);
        x.pass(8);
        int[] due = {0, 1, 1, 0, 2, 2, 2, 0};
        for (int frame = 0; frame < due.length; frame++) {
            shownIs(x, frame, 0, due[frame]);
        }
    }

    private static void restWithoutFight() {
        Castdesk x = oneFight();
        x.camera(1, 4);
        x.camera(5, 0);
        x.pass(2);
        cameraIs(x, 0, 0, 3);
        x.end(0);
        x.pass(3);
        cameraIs(x, 0, 0, 0);
        cameraIs(x, 1, 0, 0);
        x.fight(0, 1);
        x.pass(1);
        shownIs(x, 4, Castdesk.NONE, Castdesk.NONE);
        // No camera was on air in the frame ahead, so it is the lowest one.
        shownIs(x, 5, 1, 0);
    }
}
