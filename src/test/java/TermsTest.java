/**
 * The document's "Terms" up to the delay, sentence by sentence: what each names as a bound holds at the bound, one
 * below and one above, and a call that is refused there changes nothing (Script looks at that behind each run).
 */
public final class TermsTest {
    private static final String ALWAYS_ON_AIR = "camera 60 0; camera 60 0; ";

    public static void main(String[] args) {
        Check.test("frames are counted from 0, at most 3000", TermsTest::frames);
        Check.test("it is the frame 0 at first, which passes, and then is over", TermsTest::frameZero);
        Check.test("players 0 to 9, each with a rank, 0 to 99, 0 at first", TermsTest::players);
        Check.test("fights are numbered from 0, at most 20", TermsTest::atMostTwentyFights);
        Check.test("fights are numbered from 0, at most 20: replays too", TermsTest::atMostTwentyWithReplays);
        Check.test("a fight is of two players", TermsTest::ofTwoPlayers);
        Check.test("from a frame on; a fight goes on until it is ended", TermsTest::goesOnUntilEnded);
        Check.test("a player is in one fight that goes on at most", TermsTest::oneFightAtMost);
        Check.test("cameras are numbered from 0, at most 6", TermsTest::atMostSixCameras);
        Check.test("stamina 1 to 60, rest 0 to 60", TermsTest::staminaAndRest);
        Check.test("on air as long as its stamina, one frame behind the other", TermsTest::asLongAsItsStamina);
        Check.test("off for as many frames as its rest, one at least", TermsTest::offAsLongAsItsRest);
        Check.test("behind a frame in which it was off that begins anew", TermsTest::beginsAnew);
        Check.test("otherwise it can be on air", TermsTest::otherwiseItCan);
        Check.test("the camera that was on air goes on, otherwise the lowest", TermsTest::goesOnOtherwiseLowest);
        Check.test("if none can, or no fight goes on, nothing is shown", TermsTest::nothingIsShown);
        Check.test("the greatest heat: the ranks of both players", TermsTest::ranksOfBoth);
        Check.test("of several the one that was shown in the frame ahead", TermsTest::shownInTheFrameAhead);
        Check.test("of several otherwise the lowest", TermsTest::otherwiseTheLowest);
        Check.test("10 for each of the 5 frames ahead of this", TermsTest::fiveFramesAhead);
        Check.test("10 for each frame in which a blow was logged", TermsTest::tenForEachFrame);
        Check.test("whatever became of that blow", TermsTest::whateverBecameOfIt);
        Check.test("a blow in it: not in another fight", TermsTest::aBlowInIt);
        Check.test("the delay is 0 to 100 frames, 10 at first", TermsTest::delayOfTen);
        Check.test("the frame of now less 1 and the delay", TermsTest::lessOneAndTheDelay);
        Check.test("not one ahead of that up to which they had seen before", TermsTest::notOneAhead);
        Check.test("behind a call that tells the delay; NONE as long as there is none", TermsTest::behindACall);
        Check.end();
    }

    private static void frames() {
        Script.run("frame = 0; shown 0 0 = bounds", Script.each(1, 14, "pass 200"), "frame = 2800; pass 199 = 2999",
                "pass 2 = state; pass 200 = state; frame = 2999; shown 2998 0 = none; shown 2999 0 = bounds",
                "pass 1 = 3000; frame = 3000; pass 1 = state; pass 200 = state; frame = 3000",
                "shown 2999 0 = none; shown 3000 0 = bounds");
        Script.run(Script.each(1, 15, "pass 200"), "frame = 3000; pass 1 = state; pass 200 = state; frame = 3000");
        Script.run(Script.each(1, 14, "pass 200"), "pass 1 = 2801; pass 200 = state; pass 199 = 3000");
        // What needs no frame to pass goes on in the last one.
        Script.run("fight 0 1; camera 3 3; pass 199", Script.each(1, 14, "pass 200"), "pass 1 = 3000",
                "blow 0 1 4 = 0; mend 0 5 = 4; points 0 1 = 5; overlay 0 1 = 0; delay 0 = 10; seen = 2999",
                "overlay 0 1 = 0; end 0 = 1; replay 0 = 1; fight 2 3 = 2; camera 1 1 = 1; slot 0 0 = 1; rank 0 1 = 0");
    }

    private static void frameZero() {
        Script.run("frame = 0; fight 4 5; camera 5 5; blow 0 4 2 = 0; promise 1 9; slot 1 5; shown 0 0 = bounds",
                "pass 1 = 1; frame = 1; shown 0 0 = 0; shown 0 1 = 0; shown 0 2 = 1; shown 1 0 = bounds",
                "fightOf 0 4 = 1; cameraOf 0 0 = 1; counted 1 = 1; countedAnew 1 = 1; delay 0 = 10; seen = 0",
                "overlay 0 4 = 2; blow 0 5 1; pass 1 = 2; shown 1 0 = 0; shown 2 0 = bounds");
    }

    private static void players() {
        Script.run(Script.each(0, 9, "rank # 0 = 0"), "rank -1 0 = bounds; rank 10 0 = bounds",
                Script.each(0, 9, "rank # 9# = 0"), Script.each(0, 9, "rank # 0 = 9#"));
        Script.run("rank 4 98 = 0; rank 4 99 = 98; rank 4 100 = argument; rank 4 1 = 99; rank 4 -1 = argument",
                "rank 4 0 = 1; rank 4 7 = 0; rank 4 7 = 7");
        Script.run("fight 0 9 = 0; fight 10 1 = bounds; fight 1 10 = bounds; fight -1 1 = bounds; fight 1 -1 = bounds",
                "fight 8 1 = 1");
    }

    private static void atMostTwentyFights() {
        Script.run("fightOf 0 0 = bounds", Script.each(0, 18, "fight 0 1 = #; end # = none"),
                "fight 2 3 = 19; fight 4 5 = state; fightOf 19 0 = 0; fightOf 20 0 = bounds; replay 0 = state",
                "fightOf 0 0 = 1; end 19 = none; fight 2 3 = state; replay 19 = state; fightOf 19 0 = 1");
    }

    private static void atMostTwentyWithReplays() {
        Script.run("fight 0 1 = 0; blow 0 0 3", Script.each(0, 17, "end #; replay #"),
                "fightOf 18 0 = 0; end 18 = none; fightOf 17 0 = 2; replay 18 = 19; fightOf 18 0 = 2; end 19 = none",
                "replay 19 = state; fightOf 19 0 = 1; fight 0 1 = state; fightOf 20 0 = bounds; replay 20 = bounds");
        // A replay that is refused at 20 strikes nothing and takes no frame back.
        Script.run(ALWAYS_ON_AIR, "promise 0 9; slot 0 0; fight 0 1 = 0; blow 0 1 3; pass 3; end 0 = 1",
                Script.each(1, 19, "fight 0 1 = #; end # = none"),
                "replay 0 = state; points 0 1 = 3; fightOf 0 0 = 1; fightOf 0 3 = 1; counted 0 = 3; shown 2 2 = 0",
                "leader 0 = 1");
    }

    private static void ofTwoPlayers() {
        Script.run("fight 0 0 = argument; fight 9 9 = argument; fight 3 3 = argument; fight 3 4 = 0; fightOf 0 1 = 3",
                "fightOf 0 2 = 4; fight 4 4 = argument; fightOf 1 0 = bounds");
    }

    private static void goesOnUntilEnded() {
        Script.run("pass 5; camera 60 0; fight 0 1 = 0; fightOf 0 4 = 0; fightOf 0 0 = 0; pass 60; fightOf 0 0 = 0",
                "shown 4 0 = none; shown 5 0 = 0; shown 64 0 = 0; pass 1; blow 0 0 1; end 0 = 0; fightOf 0 0 = 1",
                "pass 1; shown 66 0 = none; end 0 = state; fightOf 0 0 = 1; fightOf 0 4 = 60");
    }

    private static void oneFightAtMost() {
        Script.run("fight 0 1 = 0; fight 0 2 = state; fight 2 0 = state; fight 1 2 = state; fight 2 1 = state",
                "fight 0 1 = state; fight 1 0 = state; fight 2 3 = 1; fight 4 5 = 2; fight 6 7 = 3; fight 8 9 = 4",
                "fight 9 0 = state; fight 3 4 = state; end 0; fight 0 2 = state; fight 3 1 = state; fight 1 0 = 5",
                "fightOf 6 0 = bounds; end 5; end 4; fight 8 0 = 6; fight 9 1 = 7");
        // A replay begins a fight of both players as others do.
        Script.run("fight 0 1 = 0; end 0; fight 1 2 = 1; replay 0 = state; fightOf 0 0 = 1; end 1; fight 3 0 = 2",
                "replay 0 = state; end 2; replay 0 = 3; fight 0 4 = state; fight 4 1 = state; replay 1 = state",
                "end 3; replay 1 = 4; fight 2 0 = state");
    }

    private static void atMostSixCameras() {
        Script.run("cameraOf 0 0 = bounds", Script.each(0, 4, "camera 1 1 = #"),
                "cameraOf 5 0 = bounds; camera 60 60 = 5; cameraOf 5 0 = 0; camera 1 1 = state; camera 60 60 = state",
                "cameraOf 6 0 = bounds; cameraOf -1 0 = bounds; cameraOf 5 1 = 0");
        // The sixth can be on air as others can.
        Script.run("fight 0 1", Script.each(0, 4, "camera 1 9 = #"), "camera 2 9 = 5; camera 1 9 = state; pass 7",
                Script.each(0, 5, "shown # 1 = #"), "shown 6 1 = 5; cameraOf 5 0 = 2; cameraOf 5 1 = 9");
    }

    private static void staminaAndRest() {
        Script.run("camera 0 0 = argument; camera 1 -1 = argument; camera 61 0 = argument; camera 1 61 = argument",
                "camera 0 61 = argument; cameraOf 0 0 = bounds; camera 1 0 = 0; camera 1 60 = 1; camera 60 0 = 2",
                "camera 60 60 = 3; camera 2 1 = 4; camera 59 59 = 5; cameraOf 5 0 = 0");
    }

    private static void asLongAsItsStamina() {
        Script.run("fight 0 1; camera 1 9; pass 2; shown 0 1 = 0; shown 1 1 = none; cameraOf 0 0 = 0");
        Script.run("fight 0 1; camera 2 9; pass 1; cameraOf 0 0 = 1; cameraOf 0 1 = 0; pass 1; cameraOf 0 0 = 2",
                "cameraOf 0 1 = 9; shown 1 1 = 0; pass 1; shown 2 1 = none; cameraOf 0 0 = 0; cameraOf 0 1 = 8");
        Script.run("fight 0 1; camera 60 9; pass 59; cameraOf 0 0 = 59; cameraOf 0 1 = 0; pass 1; cameraOf 0 0 = 60",
                "cameraOf 0 1 = 9; shown 59 1 = 0; pass 1; shown 60 1 = none; cameraOf 0 0 = 0; fightOf 0 4 = 60");
        // It is the frames that are counted, whichever fights they show.
        Script.run("fight 0 1; fight 2 3; camera 3 9; pass 1; rank 2 9; pass 1; shown 1 0 = 1; cameraOf 0 0 = 2",
                "end 1; pass 1; shown 2 0 = 0; cameraOf 0 0 = 3; cameraOf 0 1 = 9; pass 1; shown 3 0 = none");
    }

    private static void offAsLongAsItsRest() {
        for (String rest : new String[] {"0", "1"}) {
            Script.run("fight 0 1; camera 2 " + rest + "; pass 2; cameraOf 0 1 = 1; pass 1; cameraOf 0 1 = 0",
                    "shown 2 1 = none; pass 1; shown 3 1 = 0; cameraOf 0 0 = 1; pass 2; shown 4 1 = 0",
                "shown 5 1 = none");
        }
        Script.run("fight 0 1; camera 2 2; pass 2; cameraOf 0 1 = 2; pass 1; cameraOf 0 1 = 1; pass 1",
                "cameraOf 0 1 = 0",
                "shown 2 1 = none; shown 3 1 = none; pass 1; shown 4 1 = 0");
        Script.run("fight 0 1; camera 1 60; pass 1; cameraOf 0 1 = 60; pass 59; cameraOf 0 1 = 1; pass 1",
                "cameraOf 0 1 = 0; shown 60 1 = none; pass 1; shown 61 1 = 0; cameraOf 0 1 = 60; fightOf 0 4 = 2");
        // Frames in which no fight goes on are frames in which it is off.
        Script.run("fight 0 1; camera 1 3; pass 1; end 0; pass 2; cameraOf 0 1 = 1; fight 0 1; pass 1",
                "shown 3 1 = none",
                "pass 1; shown 4 1 = 0");
        // More frames off than it has to be take nothing below 0.
        Script.run("fight 0 1; camera 1 1; pass 1; end 0; pass 50; cameraOf 0 1 = 0; cameraOf 0 0 = 0; fight 0 1",
                "pass 1; shown 51 1 = 0; cameraOf 0 1 = 1");
    }

    private static void beginsAnew() {
        Script.run("fight 0 1; camera 3 9; pass 2; end 0; cameraOf 0 0 = 2; pass 1; cameraOf 0 0 = 0; cameraOf 0 1 = 0",
                "fight 0 1; pass 1; cameraOf 0 0 = 1; pass 2; cameraOf 0 0 = 3; cameraOf 0 1 = 9; shown 5 1 = 0",
                "pass 1; shown 6 1 = none");
    }

    private static void otherwiseItCan() {
        // It was on air one frame short of its stamina: it does not have to be off.
        Script.run("fight 0 1; camera 4 60; pass 3; cameraOf 0 0 = 3; cameraOf 0 1 = 0; end 0; pass 1; fight 0 1",
                "pass 1",
                "shown 4 1 = 0");
        // It was never on air.
        Script.run("fight 0 1; camera 60 60; camera 1 60; pass 60; shown 59 1 = 0; cameraOf 1 0 = 0; cameraOf 1 1 = 0",
                "pass 1; shown 60 1 = 1; cameraOf 1 1 = 60; cameraOf 0 1 = 59");
    }

    private static void goesOnOtherwiseLowest() {
        // Camera 0 can again from frame 2 on, but camera 1 goes on up to its stamina.
        Script.run("fight 0 1; camera 1 1; camera 4 2; camera 9 9; pass 6", "shown 0 1 = 0; shown 1 1 = 1",
                "shown 2 1 = 1",
                "shown 3 1 = 1; shown 4 1 = 1; shown 5 1 = 0; cameraOf 1 1 = 1; pass 1; shown 6 1 = 2");
        // One that is told while another one is on air waits for its turn.
        Script.run("camera 1 9; camera 2 9; fight 0 1; pass 2; shown 1 1 = 1; camera 60 0 = 2; pass 2; shown 2 1 = 1",
                "shown 3 1 = 2; pass 8; shown 11 1 = 2");
        // The camera goes on from one fight to another.
        Script.run("camera 1 1; camera 5 5; fight 0 1; pass 2; end 0; fight 2 3; pass 1; shown 2 0 = 1; shown 2 1 = 1");
        // If the camera that was on air cannot, the lowest that can is not always the one behind it.
        Script.run("camera 2 3; camera 2 1; camera 9 9; fight 0 1; pass 5; shown 1 1 = 0; shown 2 1 = 1; shown 3 1 = 1",
                "shown 4 1 = 2; cameraOf 0 1 = 0; cameraOf 1 1 = 0; pass 9; shown 12 1 = 2; shown 13 1 = 0");
    }

    private static void nothingIsShown() {
        String nothing = "shown # 0 = none; shown # 1 = none; shown # 2 = none";
        // No camera is there; no fight is there; neither is.
        Script.run("fight 0 1; promise 0 9; slot 0 0; pass 2", Script.each(0, 1, nothing), "fightOf 0 4 = 0",
                "owed 0 = 9");
        Script.run("camera 2 9; promise 0 9; slot 0 0; pass 3", Script.each(0, 2, nothing),
                "cameraOf 0 0 = 0; cameraOf 0 1 = 0; counted 0 = 0; countedAnew 0 = 0");
        Script.run("promise 0 9; slot 0 0; pass 1", Script.each(0, 0, nothing), "counted 0 = 0");
        // No camera can; with one more it is shown.
        Script.run("camera 1 2; camera 1 2; fight 0 1; promise 0 9; slot 0 0; pass 3; shown 1 1 = 1",
                Script.each(2, 2, nothing), "fightOf 0 4 = 2; counted 0 = 2; countedAnew 0 = 2; owed 0 = 7; pass 1",
                "shown 3 1 = 0; shown 3 0 = 0; shown 3 2 = 0; pass 1; shown 4 1 = 1");
        // The one fight is over.
        Script.run("camera 9 9; fight 0 1; pass 1; end 0; pass 1", Script.each(1, 1, nothing), "fightOf 0 4 = 1");
    }

    private static void ranksOfBoth() {
        Script.run("camera 60 0; fight 0 1; fight 2 3; rank 0 99; rank 2 49; rank 3 50; pass 1; shown 0 0 = 0",
                "rank 3 51",
                "pass 1; shown 1 0 = 1; rank 1 1; pass 1; shown 2 0 = 1; rank 1 2; pass 1; shown 3 0 = 0");
        Script.run("camera 60 0; fight 0 1; fight 2 3; rank 0 99; rank 1 99; rank 2 99; rank 3 98; pass 1",
                "shown 0 0 = 0",
                "rank 3 99; pass 1; shown 1 0 = 0; rank 1 98; pass 1; shown 2 0 = 1; rank 1 99; pass 1; shown 3 0 = 1");
        // A rank is that of now, not of the fight's begin; the ranks of others do not heat.
        Script.run("camera 60 0; fight 0 1; fight 2 3; rank 4 99; rank 3 1; pass 1; shown 0 0 = 1; rank 3 0; rank 0 1",
                "pass 1; shown 1 0 = 0");
    }

    private static void shownInTheFrameAhead() {
        Script.run("camera 60 0; fight 0 1; fight 2 3; fight 4 5; rank 2 1; pass 1; shown 0 0 = 1; rank 2 0; pass 3",
                "shown 1 0 = 1; shown 2 0 = 1; shown 3 0 = 1; rank 5 1; pass 1; shown 4 0 = 2; rank 5 0; pass 1",
                "shown 5 0 = 2; end 2; pass 1; shown 6 0 = 0");
        // It has to be one of the several: if it is cooler, the lowest of these is shown.
        Script.run("camera 60 0; fight 0 1; fight 2 3; fight 4 5; rank 4 5; pass 1; shown 0 0 = 2; rank 0 6; rank 2 6",
                "pass 1; shown 1 0 = 0");
        Script.run("camera 60 0; fight 0 1; fight 2 3; fight 4 5; rank 0 5; pass 1; shown 0 0 = 0; rank 4 6; rank 2 6",
                "pass 1; shown 1 0 = 1");
    }

    private static void otherwiseTheLowest() {
        Script.run("camera 60 0; fight 8 9; fight 0 1; fight 2 3; pass 1; shown 0 0 = 0; end 0; pass 1; shown 1 0 = 1");
        // The one that was shown two frames ahead, with nothing shown between, is none of the frame ahead.
        Script.run("camera 1 1; fight 0 1; fight 2 3; rank 2 1; pass 1; shown 0 0 = 1; rank 2 0; pass 2",
                "shown 1 0 = none",
                "shown 2 0 = 0");
        // The replay of the one that was shown is another fight.
        Script.run("camera 60 0; fight 0 1; fight 2 3; rank 0 1; pass 1; rank 0 0; end 0; replay 0 = 2; pass 1",
                "shown 1 0 = 1");
    }

    private static void fiveFramesAhead() {
        // Fight 1 is hotter in frames 1 to 5 alone: not in the blow's own frame, nor in the sixth behind it.
        Script.run("camera 60 0; fight 0 1; fight 2 3; rank 0 9; blow 1 2 1; pass 7; shown 0 0 = 0",
                Script.each(1, 5, "shown # 0 = 1"), "shown 6 0 = 0");
        // The same for the first fight, and for one behind others.
        Script.run("camera 60 0; fight 0 1; fight 2 3; rank 2 9; blow 0 1 1; pass 7; shown 0 0 = 1",
                Script.each(1, 5, "shown # 0 = 0"), "shown 6 0 = 1");
        Script.run("camera 60 0; fight 0 1; fight 2 3; fight 4 5; rank 2 9; blow 2 4 1; pass 7; shown 0 0 = 1",
                Script.each(1, 5, "shown # 0 = 2"), "shown 6 0 = 1");
        // It is each of them that counts, the first and the fifth too.
        Script.run("camera 60 0; fight 0 1; fight 2 3; rank 0 19; blow 1 2 1; pass 4; blow 1 2 1; pass 3",
                "shown 4 0 = 0; shown 5 0 = 1; shown 6 0 = 0");
        Script.run("camera 60 0; fight 0 1; fight 2 3; rank 0 19; blow 1 2 1; pass 5; blow 1 2 1; pass 2",
                "shown 5 0 = 0; shown 6 0 = 0");
        // A blow heats no more, however many frames pass behind it.
        Script.run(ALWAYS_ON_AIR, "fight 0 1; fight 2 3; rank 0 1; blow 1 2 1; pass 80; shown 5 0 = 1",
                Script.each(6, 79, "shown # 0 = 0"));
        // In frame 1 there is one frame ahead; those that never were do not heat.
        Script.run("camera 60 0; fight 0 1; fight 2 3; blow 1 3 1; rank 0 10; rank 1 1; pass 2; shown 1 0 = 0");
    }

    private static void tenForEachFrame() {
        for (String points : new String[] {"1", "9"}) {
            String blow = "blow 1 2 " + points + "; ";
            // Several blows in a frame are one frame in which a blow was logged.
            Script.run("camera 60 0; fight 0 1; fight 2 3; rank 0 11; " + blow, blow, "blow 1 3 9; pass 2",
                "shown 1 0 = 0");
            Script.run("camera 60 0; fight 0 1; fight 2 3; rank 0 9; " + blow, "pass 2; shown 1 0 = 1");
            Script.run("camera 60 0; fight 0 1; fight 2 3; rank 0 10; " + blow, "pass 2; shown 1 0 = 0");
        }
        String fiveBlows = Script.each(0, 4, "blow 1 3 1; pass 1");
        Script.run("camera 60 0; fight 0 1; fight 2 3; rank 0 49", fiveBlows, "pass 2; shown 4 0 = 0; shown 5 0 = 1",
                "shown 6 0 = 0");
        Script.run("camera 60 0; fight 0 1; fight 2 3; rank 0 50", fiveBlows, "pass 2; shown 5 0 = 0");
        // A sixth one heats in place of the first, not beside it.
        Script.run("camera 60 0; fight 0 1; fight 2 3; rank 0 51", fiveBlows, "blow 1 3 1; pass 2; shown 5 0 = 0",
                "shown 6 0 = 0");
    }

    private static void whateverBecameOfIt() {
        Script.run("camera 60 0; fight 0 1; fight 2 3; rank 0 9; blow 1 2 1; strike 0; pass 7; shown 0 0 = 0",
                Script.each(1, 5, "shown # 0 = 1"), "shown 6 0 = 0");
        Script.run("camera 60 0; fight 0 1; fight 2 3; rank 0 9; blow 1 2 1; pass 3; strike 0; pass 4",
                Script.each(1, 5, "shown # 0 = 1"), "shown 6 0 = 0");
        Script.run("camera 60 0; fight 0 1; fight 2 3; rank 0 9; blow 1 2 1; pass 1; mend 0 9; pass 1; mend 0 8",
                "pass 5",
                Script.each(1, 5, "shown # 0 = 1"), "shown 6 0 = 0");
        // A blow that is refused was not logged.
        Script.run("camera 60 0; fight 0 1; fight 2 3; rank 0 9; blow 1 2 0 = argument; blow 1 2 10 = argument",
                "blow 1 4 1 = argument; blow 1 10 1 = bounds; pass 2; shown 1 0 = 0");
        Script.run("camera 60 0; fight 0 1; fight 2 3; rank 0 9", Script.each(1, 80, "blow 0 0 1"),
                "pass 6; blow 1 2 1 = state; pass 2; shown 7 0 = 0; shown 6 0 = 0");
    }

    private static void aBlowInIt() {
        // The blows of a fight heat neither its replay nor another fight of the same players.
        Script.run("camera 60 0; fight 0 1; fight 2 3; rank 0 9; blow 1 2 1; end 1; replay 1 = 2; pass 2",
                "shown 1 0 = 0");
        Script.run("camera 60 0; fight 0 1; fight 2 3; rank 0 9; blow 1 2 1; end 1; fight 2 3 = 2; pass 2",
                "shown 1 0 = 0");
        // Blows of either player heat the fight.
        Script.run("camera 60 0; fight 0 1; fight 2 3; rank 0 19; blow 1 2 1; pass 1; blow 1 3 1; pass 2",
                "shown 1 0 = 0",
                "shown 2 0 = 1");
    }

    private static void delayOfTen() {
        Script.run("delay 10 = 10; delay 0 = 10; delay -1 = argument; delay 0 = 0; delay 1 = 0; delay 99 = 1",
                "delay 100 = 99",
                "delay 101 = argument; delay 100 = 100");
        Script.run("pass 10; seen = none; pass 1; seen = 0; pass 1; seen = 1");
        Script.run("delay 0; seen = none; pass 1; seen = 0; pass 1; seen = 1");
        Script.run("delay 100; pass 100; seen = none; pass 1; seen = 0; pass 200; seen = 200");
        // A delay that is refused lets nothing be seen.
        Script.run("pass 30; seen = 19; delay -1 = argument; delay 101 = argument; seen = 19; pass 1; seen = 20");
    }

    private static void lessOneAndTheDelay() {
        Script.run("pass 20; seen = 9; delay 9 = 10; seen = 10; delay 1; seen = 18; delay 0; seen = 19; pass 1",
                "seen = 20");
        // Each frame that passes counts, not each call.
        Script.run("delay 3; pass 200; seen = 196; delay 100; pass 96; seen = 196; pass 1; seen = 196; pass 1",
                "seen = 197");
    }

    private static void notOneAhead() {
        Script.run("pass 20; seen = 9; delay 11; seen = 9; pass 1; seen = 9; pass 1; seen = 10; delay 100; seen = 10",
                "pass 89; frame = 111; seen = 10; pass 1; seen = 11; delay 99; seen = 12");
        // What viewers have seen stays on the overlay.
        Script.run("fight 0 1; delay 0; blow 0 0 3; pass 1; overlay 0 0 = 3; delay 100; overlay 0 0 = 3; blow 0 0 4",
                "pass 100; overlay 0 0 = 3; seen = 0; pass 1; seen = 1; overlay 0 0 = 7");
    }

    private static void behindACall() {
        Script.run("pass 5; seen = none; delay 5 = 10; seen = none; delay 4; seen = 0; delay 5; seen = 0; pass 1",
                "seen = 0",
                "delay 4; seen = 1");
        Script.run("seen = none; delay 0; seen = none; delay 100; seen = none; pass 1; seen = none; delay 0; seen = 0");
        Script.run("fight 0 1; pass 4; blow 0 1 6; pass 6; overlay 0 1 = 0; delay 6; seen = 3; overlay 0 1 = 0",
                "delay 5",
                "seen = 4; overlay 0 1 = 6");
    }
}
