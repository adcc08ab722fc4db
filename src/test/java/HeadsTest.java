/**
 * The heads "Promise 1" to "Promise 24": each argument at its bounds, one below and one above, at the ends of int too,
 * what is returned there, each reason to throw by itself, and that nothing has changed behind a call that threw
 * (Script looks at that behind each run).
 */
public final class HeadsTest {
    /** A camera is on air in each frame. */
    private static final String ON_AIR = "camera 60 0; camera 60 0; ";

    public static void main(String[] args) {
        Check.test("promise 1: no fights, cameras and slots; the frame 0", HeadsTest::newObject);
        Check.test("promise 2: rank", HeadsTest::rank);
        Check.test("promise 3: fight", HeadsTest::fight);
        Check.test("promise 4: end", HeadsTest::end);
        Check.test("promise 5: replay", HeadsTest::replay);
        Check.test("promise 6: camera", HeadsTest::camera);
        Check.test("promise 7: delay", HeadsTest::delay);
        Check.test("promise 8: pass", HeadsTest::pass);
        Check.test("promise 9: blow", HeadsTest::blow);
        Check.test("promise 10: strike", HeadsTest::strike);
        Check.test("promise 11: mend", HeadsTest::mend);
        Check.test("promise 12: promise", HeadsTest::promise);
        Check.test("promise 13: slot", HeadsTest::slot);
        Check.test("promise 14: frame", HeadsTest::frame);
        Check.test("promise 15: shown", HeadsTest::shown);
        Check.test("promise 16: seen", HeadsTest::seen);
        Check.test("promise 17: points", HeadsTest::points);
        Check.test("promise 18: overlay", HeadsTest::overlay);
        Check.test("promise 19: fightOf", HeadsTest::fightOf);
        Check.test("promise 20: cameraOf", HeadsTest::cameraOf);
        Check.test("promise 21: counted", () -> countedBy("counted"));
        Check.test("promise 22: countedAnew", () -> countedBy("countedAnew"));
        Check.test("promise 23: owed", HeadsTest::owed);
        Check.test("promise 24: leader", HeadsTest::leader);
        Check.end();
    }

    private static void newObject() {
        Script.run("frame = 0; seen = none; fightOf 0 0 = bounds; cameraOf 0 0 = bounds; shown 0 0 = bounds",
                "end 0 = bounds; replay 0 = bounds; strike 0 = bounds; mend 0 1 = bounds; blow 0 0 1 = bounds",
                "points 0 0 = bounds; overlay 0 0 = bounds", Script.each(0, 9, "leader # = #; rank # 0 = 0"),
                Script.each(0, 5, "owed # = 0; counted # = 0; countedAnew # = 0; promise # 0 = 0"),
                "delay 10 = 10; slot 0 0 = 1; camera 1 0 = 0; fight 0 1 = 0; blow 0 0 1 = 0; pass 1 = 1");
    }

    private static void rank() {
        Script.run("rank 0 0 = 0; rank 0 1 = 0; rank 0 98 = 1; rank 0 99 = 98; rank 0 0 = 99; rank 9 99 = 0",
                "rank 9 5 = 99",
                "rank 0 -1 = argument; rank 0 100 = argument; rank 0 most = argument; rank 0 least = argument",
                "rank -1 1 = bounds; rank 10 1 = bounds; rank most 1 = bounds; rank least 1 = bounds; rank 0 3 = 0",
                "rank 9 -1 = argument; rank 9 100 = argument; rank 9 6 = 5; rank 1 0 = 0; rank 8 0 = 0");
        // It is told in a fight that goes on, and behind it.
        Script.run(ON_AIR, "fight 0 1; fight 2 3; rank 3 1; pass 1; shown 0 0 = 1; rank 3 100 = argument; end 1",
                "rank 3 2 = 1; rank 10 2 = bounds; pass 1; shown 1 0 = 0");
    }

    private static void fight() {
        Script.run("fight -1 0 = bounds; fight 0 -1 = bounds; fight 10 0 = bounds; fight 0 10 = bounds",
                "fight 0 0 = argument",
                "fight most 0 = bounds; fight 0 least = bounds; fight 9 9 = argument; fight 0 9 = 0; fight 8 9 = state",
                "fight 9 8 = state; fight 0 8 = state; fight 8 0 = state; fight 8 1 = 1; fightOf 1 1 = 8",
                "fightOf 1 2 = 1",
                "fightOf 2 0 = bounds; fight 0 0 = argument; fight 0 10 = bounds; fight 2 3 = 2; fightOf 2 3 = none");
        Script.run("fight 0 1 = 0; end 0; fight 1 0 = 1; fightOf 1 1 = 1; fightOf 1 2 = 0; fightOf 0 1 = 0",
                "fight 0 2 = state",
                Script.each(1, 17, "end #; replay #"), "fight 2 3 = 19; fight 4 5 = state; fight 0 4 = state; end 19",
                "fight 4 5 = state; fightOf 20 1 = bounds");
    }

    private static void end() {
        Script.run("end 0 = bounds; fight 3 4; end 1 = bounds; end -1 = bounds; end most = bounds; end least = bounds",
                "fightOf 0 0 = 0; end 0 = none; end 0 = state; fightOf 0 0 = 1; replay 0 = 1; end 0 = state",
                "fightOf 0 0 = 2",
                "fightOf 1 0 = 0; blow 1 4 1; end 1 = 4; end 1 = state; fightOf 1 3 = 4; leader 0 = 4");
        // An end that is refused brings no second win.
        Script.run("fight 3 4; blow 0 4 1; end 0 = 4; end 0 = state; end 0 = state; fight 2 5; blow 1 2 1; end 1 = 2",
                "leader 0 = 2; leader 1 = 4; fight 2 5; blow 2 2 1; end 2 = 2; leader 0 = 2");
        Script.run(Script.each(0, 18, "fight 0 1; end #"), "fight 0 1 = 19; blow 19 1 9; end 20 = bounds; end 19 = 1");
    }

    private static void replay() {
        Script.run("replay 0 = bounds; fight 3 4; replay 0 = state; replay 1 = bounds; replay -1 = bounds; blow 0 3 2",
                "replay most = bounds; replay least = bounds; points 0 3 = 2; fightOf 0 0 = 0; end 0 = 3",
                "replay 1 = bounds",
                "replay 0 = 1; replay 0 = state; replay 1 = state; replay 2 = bounds; points 0 3 = 0",
                "fightOf 2 0 = bounds");
        // The first one, the second one and both are in another fight that goes on.
        Script.run(ON_AIR, "promise 0 9; slot 0 3; fight 3 4; blow 0 3 2; pass 2; end 0 = 3; fight 3 5",
                "replay 0 = state",
                "end 1; fight 6 4; replay 0 = state; fight 5 3; replay 0 = state; end 2; replay 0 = state; end 3",
                "fight 4 3; replay 0 = state; fightOf 0 0 = 1; fightOf 0 3 = 3; points 0 3 = 2; counted 0 = 2",
                "shown 1 2 = 0",
                "leader 0 = 3; end 4; replay 0 = 5; fightOf 0 3 = none; points 0 3 = 0; counted 0 = 0; leader 0 = 0");
        Script.run("fight 3 4; end 0; fight 5 6; replay 0 = 2; fightOf 2 1 = 3; fightOf 2 2 = 4; fightOf 1 0 = 0");
        Script.run(Script.each(0, 18, "fight 0 1; end #"), "replay 18 = 19; end 19; replay 17 = state",
                "fightOf 17 0 = 1");
    }

    private static void camera() {
        Script.run("camera 0 5 = argument; camera 61 5 = argument; camera -1 5 = argument; camera most 5 = argument",
                "camera least 5 = argument; camera 5 -1 = argument; camera 5 61 = argument; camera 5 most = argument",
                "camera 5 least = argument; cameraOf 0 0 = bounds; camera 1 5 = 0; camera 60 5 = 1; camera 5 0 = 2",
                "camera 5 60 = 3; camera 2 1 = 4; camera 59 59 = 5; camera 5 5 = state; camera 0 5 = argument",
                "camera 5 61 = argument; cameraOf 6 0 = bounds; cameraOf 5 0 = 0; cameraOf 5 1 = 0");
        // Stamina and rest are held as they are told, behind calls that are refused too.
        Script.run("fight 0 1; camera 61 0 = argument; camera 2 3 = 0; camera 0 0 = argument; pass 2; cameraOf 0 0 = 2",
                "cameraOf 0 1 = 3; camera 1 61 = argument; cameraOf 0 1 = 3; pass 1; cameraOf 0 1 = 2");
    }

    private static void delay() {
        Script.run("delay 0 = 10; delay 1 = 0; delay 99 = 1; delay 100 = 99; delay 101 = argument; delay -1 = argument",
                "delay most = argument; delay least = argument; delay 10 = 100; delay 10 = 10");
        Script.run("pass 150; seen = 139; delay -1 = argument; seen = 139; delay 101 = argument; pass 1; seen = 140",
                "delay 9 = 10; seen = 141; delay 100 = 9; seen = 141; delay 0 = 100; seen = 150");
    }

    private static void pass() {
        Script.run("pass 0 = argument; pass -1 = argument; pass 201 = argument; pass most = argument",
                "pass least = argument",
                "frame = 0; shown 0 0 = bounds; pass 1 = 1; pass 2 = 3; pass 199 = 202; pass 200 = 402",
                "pass 201 = argument",
                "pass 0 = argument; frame = 402; shown 402 0 = bounds; shown 401 0 = none");
        // A pass that is refused near the end lets none of its frames pass.
        Script.run(ON_AIR, "fight 0 1; promise 0 9; slot 0 0; rank 0 3", Script.each(1, 14, "pass 200"),
                "pass 150 = 2950; pass 51 = state; pass 200 = state; frame = 2950; seen = 2939; fightOf 0 4 = 2950",
                "shown 2950 0 = bounds; pass 50 = 3000; pass 1 = state; fightOf 0 4 = 3000; seen = 2989",
                "counted 0 = 9");
    }

    private static void blow() {
        Script.run("fight 3 4; blow 0 3 0 = argument; blow 0 3 10 = argument; blow 0 3 most = argument; blow 0 3 1 = 0",
                "blow 0 3 least = argument; blow 0 4 9 = 1; blow 0 2 1 = argument; blow 0 5 1 = argument",
                "blow 0 0 1 = argument",
                "blow 0 9 1 = argument; blow 0 -1 1 = bounds; blow 0 10 1 = bounds; blow 0 most 1 = bounds",
                "blow 0 least 1 = bounds; blow -1 3 1 = bounds; blow 1 3 1 = bounds; blow most 3 1 = bounds",
                "blow least 3 1 = bounds; points 0 3 = 1; points 0 4 = 9; blow 0 3 2 = 2");
        Script.run("fight 0 9; blow 0 0 1 = 0; blow 0 9 1 = 1; blow 0 1 1 = argument; blow 0 8 1 = argument; end 0",
                "blow 0 0 1 = state; blow 0 9 1 = state; replay 0; blow 0 0 1 = state; blow 1 9 1 = 2; points 0 0 = 0");
        // At 79 entries one more is logged, at 80 none, in no fight.
        Script.run("fight 0 9; fight 1 2", Script.each(0, 77, "blow 0 0 1"), "blow 1 1 2 = 78; blow 1 2 3 = 79",
                "blow 1 2 3 = state; blow 0 9 3 = state; points 0 0 = 78; points 1 2 = 3; points 0 9 = 0");
    }

    private static void strike() {
        Script.run("strike 0 = bounds; fight 0 1; strike 0 = bounds; blow 0 1 9 = 0; blow 0 1 1 = 1",
                "strike -1 = bounds",
                "strike 2 = bounds; strike most = bounds; strike least = bounds; points 0 1 = 10; strike 1 = 1",
                "strike 0 = 9",
                "strike 0 = state; strike 1 = state; blow 0 1 5 = 2; strike 2 = 5; points 0 1 = 0");
        Script.run("fight 0 1; blow 0 1 9 = 0; end 0; strike 0 = state; points 0 1 = 9; fightOf 0 3 = 1; replay 0",
                "strike 0 = state; strike 1 = bounds; blow 1 1 6 = 1; strike 1 = 6");
    }

    private static void mend() {
        Script.run("mend 0 1 = bounds; fight 0 1; mend 0 1 = bounds; blow 0 1 5 = 0; mend 0 0 = argument",
                "mend 0 10 = argument",
                "mend 0 -1 = argument; mend 0 most = argument; mend 0 least = argument; mend 1 5 = bounds",
                "mend -1 5 = bounds",
                "mend most 5 = bounds; mend least 5 = bounds; mend 1 0 = bounds; points 0 1 = 5; mend 0 1 = 5",
                "mend 0 9 = 1",
                "mend 0 2 = 9; mend 0 8 = 2; points 0 1 = 8; strike 0 = 8; mend 0 1 = state; mend 0 0 = argument");
        Script.run("fight 0 1; blow 0 1 9 = 0; end 0; mend 0 1 = state; mend 0 10 = argument; points 0 1 = 9; replay 0",
                "mend 0 1 = state; blow 1 0 1 = 1; mend 1 9 = 1; end 1 = 0");
    }

    private static void promise() {
        Script.run("promise 0 1000 = 0; promise 5 999 = 0; promise 0 0 = 1000; promise 0 1 = 0",
                "promise 0 -1 = argument",
                "promise 0 1001 = argument; promise 0 most = argument; promise 0 least = argument",
                "promise -1 5 = bounds",
                "promise 6 5 = bounds; promise most 5 = bounds; promise least 5 = bounds; promise 6 1001 = bounds",
                "owed 0 = 1; owed 5 = 999; promise 0 2 = 1; promise 5 5 = 999; owed 1 = 0; owed 4 = 0");
        // In place of what was promised, not beside it; what counts goes on to count.
        Script.run(ON_AIR, "fight 0 1; slot 0 0; promise 0 3; promise 0 5 = 3; owed 0 = 5; pass 4; owed 0 = 1",
                "promise 0 7 = 5; owed 0 = 3; counted 0 = 4; promise 0 4 = 7; owed 0 = 0; pass 1; counted 0 = 4");
    }

    private static void slot() {
        Script.run("slot -1 0 = bounds; slot 6 0 = bounds; slot 0 -1 = bounds; slot 0 10 = bounds",
                "slot most 0 = bounds",
                "slot least 0 = bounds; slot 0 most = bounds; slot 0 least = bounds; slot 0 32 = bounds",
                "slot 0 31 = bounds",
                "slot 6 10 = bounds; slot 0 0 = 1; slot 0 0 = state; slot 5 9 = 2; slot 5 9 = state; slot 0 9 = 3",
                "slot 5 0 = 4",
                "slot 0 0 = state");
        // Eleven, twelve, and one more; that there is such a slot is refused before and behind.
        Script.run(Script.each(0, 9, "slot 3 #"), "slot 3 3 = state; slot 2 3 = 11; slot 2 3 = state; slot 2 4 = 12",
                "slot 2 4 = state; slot 2 5 = state; slot 0 0 = state; slot 6 0 = bounds; slot 0 10 = bounds");
    }

    private static void frame() {
        Script.run("frame = 0; pass 1; frame = 1; pass 0 = argument; frame = 1; pass 200; frame = 201; delay 0",
                "frame = 201",
                "fight 0 1; blow 0 0 1; end 0; frame = 201");
    }

    private static void shown() {
        Script.run(ON_AIR, "fight 3 4; shown 0 0 = bounds; shown 0 1 = bounds; shown 0 2 = bounds; shown -1 0 = bounds",
                "pass 1; shown 0 0 = 0; shown 1 0 = bounds; pass 2; shown 2 0 = 0; shown 3 0 = bounds",
                "shown 3 2 = bounds",
                "shown -1 0 = bounds; shown most 0 = bounds; shown least 0 = bounds; shown 0 -1 = argument",
                "shown 0 3 = argument; shown 2 3 = argument; shown 2 most = argument; shown 2 least = argument",
                "shown 3 3 = bounds; shown 3 -1 = bounds; shown 0 1 = 0; shown 0 2 = none");
        // What was shown stays so; for whom it counts is that of now.
        Script.run("camera 1 1; camera 1 1; fight 3 4; promise 5 2; slot 5 4; pass 3; shown 1 0 = 0; shown 1 1 = 1",
                "shown 1 2 = 5; shown 2 2 = none; rank 3 9; end 0; replay 0; shown 1 0 = 0; shown 1 1 = 1",
                "shown 1 2 = none");
    }

    private static void seen() {
        Script.run("seen = none; pass 10; seen = none; pass 1; seen = 0; delay 11; seen = 0; pass 1; seen = 0",
                "pass 1; seen = 1",
                "delay 101 = argument; seen = 1; pass 201 = argument; seen = 1");
        Script.run(Script.each(1, 15, "pass 200"), "seen = 2989; pass 1 = state; seen = 2989; delay 1; seen = 2998",
                "delay 0",
                "seen = 2999; delay 100; seen = 2999");
    }

    private static void points() {
        Script.run("points 0 0 = bounds; fight 3 4; points 0 3 = 0; points 0 4 = 0; points 0 0 = 0; points 0 9 = 0",
                "points 0 -1 = bounds; points 0 10 = bounds; points 0 most = bounds; points 0 least = bounds",
                "points 1 3 = bounds; points -1 3 = bounds; points most 3 = bounds; points least 3 = bounds",
                "blow 0 4 9",
                "points 0 4 = 9; points 0 3 = 0; points 0 5 = 0; points 0 -1 = bounds; fight 0 9; blow 1 9 2",
                "blow 1 0 3",
                "points 1 9 = 2; points 1 0 = 3; points 0 9 = 0; points 0 0 = 0; points 2 0 = bounds");
    }

    private static void overlay() {
        Script.run("overlay 0 0 = bounds; fight 3 4; overlay 0 3 = 0; overlay 0 4 = 0; overlay 0 0 = 0",
                "overlay 0 9 = 0",
                "overlay 0 -1 = bounds; overlay 0 10 = bounds; overlay 0 most = bounds; overlay 0 least = bounds",
                "overlay 1 3 = bounds; overlay -1 3 = bounds; overlay most 3 = bounds; overlay least 3 = bounds",
                "delay 0; fight 0 9; blow 0 4 9; blow 1 9 2; blow 1 0 3; overlay 0 4 = 0; pass 1; overlay 0 4 = 9",
                "overlay 0 3 = 0; overlay 1 9 = 2; overlay 1 0 = 3; overlay 0 0 = 0; overlay 1 4 = 0",
                "overlay 2 0 = bounds");
    }

    private static void fightOf() {
        Script.run("fightOf 0 0 = bounds; fight 9 0; fightOf 0 -1 = argument; fightOf 0 5 = argument",
                "fightOf 0 most = argument",
                "fightOf 0 least = argument; fightOf -1 0 = bounds; fightOf 1 0 = bounds; fightOf most 0 = bounds",
                "fightOf least 0 = bounds; fightOf 1 5 = bounds; fightOf -1 -1 = bounds; fightOf 0 0 = 0",
                "fightOf 0 1 = 9",
                "fightOf 0 2 = 0; fightOf 0 3 = none; fightOf 0 4 = 0");
        // Who won it is NONE while it goes on and when it is REPLAYED, whoever has more points.
        Script.run(ON_AIR, "fight 9 0; blow 0 0 3; pass 1; fightOf 0 3 = none; end 0 = 0; fightOf 0 0 = 1",
                "fightOf 0 3 = 0",
                "replay 0; fightOf 0 0 = 2; fightOf 0 3 = none; fightOf 0 1 = 9; fightOf 0 2 = 0; fightOf 0 4 = 1",
                "fightOf 1 0 = 0; fightOf 1 1 = 9; fightOf 1 2 = 0; fightOf 1 3 = none; fightOf 1 4 = 0; blow 1 9 1",
                "end 1",
                "fightOf 1 3 = 9; fightOf 0 3 = none");
        // Frames in which another fight or nothing was shown did not show it.
        Script.run("camera 2 1; fight 0 1; fight 2 3; rank 2 1; pass 3; rank 0 2; pass 2; fightOf 0 4 = 2",
                "fightOf 1 4 = 2");
    }

    private static void cameraOf() {
        Script.run("cameraOf 0 0 = bounds; camera 2 4; fight 0 1; cameraOf 0 0 = 0; cameraOf 0 1 = 0",
                "cameraOf 0 -1 = argument",
                "cameraOf 0 2 = argument; cameraOf 0 most = argument; cameraOf 0 least = argument",
                "cameraOf -1 0 = bounds",
                "cameraOf 1 0 = bounds; cameraOf most 0 = bounds; cameraOf least 0 = bounds; cameraOf 1 2 = bounds",
                "pass 1",
                "cameraOf 0 0 = 1; cameraOf 0 1 = 0; pass 1; cameraOf 0 0 = 2; cameraOf 0 1 = 4; pass 1",
                "cameraOf 0 0 = 0",
                "cameraOf 0 1 = 3; pass 2; cameraOf 0 1 = 1; pass 1; cameraOf 0 1 = 0; cameraOf 0 0 = 0; pass 1",
                "cameraOf 0 0 = 1; end 0; cameraOf 0 0 = 1; pass 1; cameraOf 0 0 = 0; cameraOf 0 1 = 0");
        Script.run("camera 1 0; camera 60 60; fight 0 1; pass 1; cameraOf 0 0 = 1; cameraOf 0 1 = 1",
                "cameraOf 1 0 = 0; pass 60",
                "cameraOf 0 0 = 0; cameraOf 0 1 = 0; cameraOf 1 0 = 60; cameraOf 1 1 = 60; pass 1; cameraOf 1 1 = 59");
    }

    /** Each C stands for the method that is asked. */
    private static void countedBy(String method) {
        String[] runs = {
            "C -1 = bounds; C 6 = bounds; C most = bounds; C least = bounds; C 0 = 0; C 5 = 0",
            ON_AIR + "fight 0 1; slot 0 0; slot 5 1; promise 0 1; promise 5 2; C 0 = 0; pass 1; C 5 = 1; C 0 = 0; pass 1; "
                    + "C 0 = 1; pass 1; C 5 = 2; pass 5; C 0 = 1; C 5 = 2; C 1 = 0; C 4 = 0; end 0; C 5 = 2; "
                    + "C 6 = bounds; C -1 = bounds; replay 0; C 0 = 0; C 5 = 0; pass 2; C 0 = 1; C 5 = 1",
            // A lower promise takes nothing back.
            ON_AIR + "fight 0 1; slot 0 0; promise 0 9; pass 9; promise 0 0; C 0 = 9; pass 1; C 0 = 9"};
        for (String run : runs) {
            Script.run(run.replace("C", method));
        }
    }

    private static void owed() {
        Script.run(ON_AIR, "owed -1 = bounds; owed 6 = bounds; owed most = bounds; owed least = bounds; owed 0 = 0",
                "owed 5 = 0",
                "fight 0 1; slot 5 1; promise 5 3; promise 0 1000; owed 5 = 3; owed 0 = 1000; pass 1; owed 5 = 2",
                "pass 1",
                "owed 5 = 1; pass 1; owed 5 = 0; pass 1; owed 5 = 0; promise 5 2; owed 5 = 0; promise 5 0; owed 5 = 0",
                "promise 5 4; owed 5 = 1; owed 0 = 1000; end 0; replay 0; owed 5 = 4; owed 6 = bounds");
    }

    private static void leader() {
        Script.run("leader -1 = bounds; leader 10 = bounds; leader most = bounds; leader least = bounds",
                Script.each(0, 9, "leader # = #"), "fight 8 9; blow 0 9 1; end 0; leader 0 = 9; leader 1 = 0",
                "leader 9 = 8",
                "fight 0 1; blow 1 1 1; leader 0 = 9; leader 1 = 0; end 1; leader 0 = 1; leader 1 = 9; leader 2 = 0",
                "leader 3 = 2; leader 9 = 8; fight 8 9; blow 2 9 1; end 2; leader 0 = 9; leader 1 = 1",
                "leader 10 = bounds");
        // A fight that is REPLAYED is not OVER: its win is gone, that of the replay comes with its end.
        Script.run("fight 8 9; blow 0 9 1; end 0 = 9; leader 0 = 9; replay 0 = 1; leader 0 = 0; leader 9 = 9",
                "blow 1 8 1",
                "leader 0 = 0; end 1 = 8; leader 0 = 8; leader 1 = 0; replay 1 = 2; end 2 = none; leader 0 = 0",
                "leader 8 = 8");
        // A fight won by none is no win.
        Script.run("fight 8 9; blow 0 8 4; blow 0 9 4; end 0 = none; leader 0 = 0; leader 8 = 8; replay 0",
                "leader 0 = 0");
    }
}
