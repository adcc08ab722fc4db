/**
 * The document's "Terms" from the log on, sentence by sentence: what each names as a bound holds at the bound, one
 * below and one above, and a call that is refused there changes nothing (Script looks at that behind each run).
 */
public final class LogTermsTest {
    /** A camera is on air in each frame. */
    private static final String ON_AIR = "camera 60 0; camera 60 0; ";

    public static void main(String[] args) {
        Check.test("entries are numbered from 0, at most 80", LogTermsTest::atMostEightyEntries);
        Check.test("a blow of a player in a fight that goes on", LogTermsTest::inAFightThatGoesOn);
        Check.test("with 1 to 9 points", LogTermsTest::oneToNinePoints);
        Check.test("in the frame of now", LogTermsTest::inTheFrameOfNow);
        Check.test("an entry can be struck, for good", LogTermsTest::struckForGood);
        Check.test("or mended to other points", LogTermsTest::mended);
        Check.test("as long as the fight goes on", LogTermsTest::asLongAsTheFightGoesOn);
        Check.test("the points are those of its entries that stand", LogTermsTest::entriesThatStand);
        Check.test("the overlay shows entries whose frames they have seen", LogTermsTest::framesTheyHaveSeen);
        Check.test("as they are struck and mended now", LogTermsTest::asTheyAreNow);
        Check.test("won by the player with more points, of like ones by none", LogTermsTest::wonByMorePoints);
        Check.test("to replay a fight that is OVER, once for each", LogTermsTest::onceForEach);
        Check.test("another one of both players, which begins at once", LogTermsTest::beginsAtOnce);
        Check.test("the first one is REPLAYED then, all its entries are struck", LogTermsTest::allItsEntriesAreStruck);
        Check.test("its frames count for no sponsor any more", LogTermsTest::countForNoSponsor);
        Check.test("other frames stay as they were counted", LogTermsTest::otherFramesStay);
        Check.test("sponsors 0 to 5: promised so many frames, 0 at first", LogTermsTest::sponsors);
        Check.test("slots, at most 12, are of a sponsor for the fights of a player", LogTermsTest::atMostTwelveSlots);
        Check.test("for one of the sponsors that have slots for one of its players", LogTermsTest::slotsForItsPlayers);
        Check.test("for the one that is owed most", LogTermsTest::owedMost);
        Check.test("of several the lowest", LogTermsTest::ofSeveralTheLowest);
        Check.test("for none, if none of these is owed something", LogTermsTest::noneIsOwed);
        Check.test("the exception that is listed first", LogTermsTest::listedFirst);
        Check.test("no such player, fight, camera, entry, sponsor or frame", LogTermsTest::noSuch);
        Check.end();
    }

    private static void atMostEightyEntries() {
        Script.run("fight 0 1; fight 2 3; strike 0 = bounds", Script.each(0, 78, "blow 0 0 1 = #"),
                "strike 79 = bounds; mend 79 1 = bounds; blow 1 3 9 = 79; blow 0 0 1 = state; blow 1 2 9 = state",
                "points 0 0 = 79; points 1 3 = 9; mend 79 8 = 9; strike 80 = bounds; mend 80 1 = bounds; strike 79 = 8",
                "blow 1 3 1 = state; points 1 3 = 0");
        // Those that are struck, and those of fights that are over, are entries too.
        Script.run("fight 0 1; blow 0 0 1 = 0; strike 0 = 1; blow 0 0 2 = 1; strike 1; end 0; replay 0",
                Script.each(2, 79, "blow 1 1 1 = #"), "blow 1 1 1 = state; points 1 1 = 78; strike 2",
                "blow 1 1 1 = state");
        // The entry that is refused does not heat its fight; the eightieth does.
        Script.run(ON_AIR, "fight 0 1; fight 2 3; rank 0 9", Script.each(0, 78, "blow 0 0 1"), "pass 6; blow 1 2 1 = 79",
                "pass 6; blow 1 2 1 = state; pass 2; shown 6 0 = 0; shown 7 0 = 1; shown 11 0 = 1; shown 12 0 = 0",
                "shown 13 0 = 0");
    }

    private static void inAFightThatGoesOn() {
        Script.run("blow 0 0 1 = bounds; fight 0 1; blow 0 0 1 = 0; blow 0 1 1 = 1; end 0; blow 0 0 1 = state",
                "points 0 0 = 1; replay 0 = 1; blow 0 0 1 = state; blow 1 0 1 = 2; points 0 0 = 0; points 1 0 = 1",
                "blow 2 0 1 = bounds");
        Script.run("fight 0 1; fight 2 3; blow 0 2 1 = argument; blow 1 1 1 = argument; blow 0 9 1 = argument",
                "blow 0 10 1 = bounds; blow 0 -1 1 = bounds; blow 0 1 1 = 0; blow 1 2 1 = 1");
    }

    private static void oneToNinePoints() {
        Script.run("fight 0 1; blow 0 0 0 = argument; blow 0 0 -1 = argument; blow 0 0 10 = argument; blow 0 0 1 = 0",
                "blow 0 0 least = argument; blow 0 0 most = argument; points 0 0 = 1; blow 0 0 9 = 1; points 0 0 = 10",
                "blow 0 1 2 = 2; blow 0 1 8 = 3; points 0 1 = 10");
        Script.run("fight 0 1; blow 0 0 5 = 0; mend 0 0 = argument; mend 0 10 = argument; mend 0 -1 = argument",
                "points 0 0 = 5; mend 0 1 = 5; points 0 0 = 1; mend 0 9 = 1; points 0 0 = 9; mend 0 most = argument",
                "mend 0 least = argument; points 0 0 = 9; mend 0 2 = 9; mend 0 8 = 2");
    }

    private static void inTheFrameOfNow() {
        Script.run("fight 0 1; delay 0; pass 3; blow 0 0 2; seen = 2; overlay 0 0 = 0; points 0 0 = 2; pass 1",
                "seen = 3",
                "overlay 0 0 = 2");
        // Mending an entry does not make it one of the frame in which it is mended.
        Script.run("fight 0 1; delay 3; blow 0 0 2; pass 3; mend 0 4; pass 1; seen = 0; overlay 0 0 = 4");
    }

    private static void struckForGood() {
        Script.run("fight 0 1; blow 0 0 4; blow 0 0 5; strike 0 = 4; points 0 0 = 5; strike 0 = state",
                "mend 0 9 = state",
                "points 0 0 = 5; strike 1 = 5; points 0 0 = 0; strike 1 = state; pass 9; strike 0 = state");
        Script.run("fight 0 1; blow 0 0 4; strike -1 = bounds; strike 1 = bounds; strike most = bounds; points 0 0 = 4",
                "strike least = bounds; mend 0 7; strike 0 = 7; end 0 = none");
    }

    private static void mended() {
        Script.run("fight 0 1; blow 0 0 4; blow 0 1 3; mend 0 5 = 4; mend 0 5 = 5; mend 0 6 = 5; points 0 0 = 6",
                "points 0 1 = 3; mend 1 4 = 3; mend 2 4 = bounds; mend -1 4 = bounds; points 0 1 = 4; mend 0 4 = 6");
    }

    private static void asLongAsTheFightGoesOn() {
        Script.run("fight 0 1; blow 0 0 4; blow 0 1 3; pass 150; mend 0 5 = 4; strike 1 = 3; end 0 = 0",
                "mend 0 6 = state",
                "strike 0 = state; points 0 0 = 5; replay 0; strike 0 = state; mend 0 6 = state; strike 1 = state");
        // It is the entry's own fight that has to go on.
        Script.run("fight 0 1; blow 0 0 4 = 0; end 0; fight 0 1; blow 1 0 3 = 1; strike 0 = state; mend 0 1 = state",
                "mend 1 2 = 3; end 1; fight 0 1; strike 1 = state; points 0 0 = 4; points 1 0 = 2");
    }

    private static void entriesThatStand() {
        Script.run("fight 0 1; points 0 0 = 0; blow 0 0 1; blow 0 0 2; blow 0 1 4; blow 0 0 8; points 0 0 = 11",
                "strike 1",
                "points 0 0 = 9; points 0 1 = 4; mend 3 9; points 0 0 = 10; strike 0; strike 3; points 0 0 = 0",
                "points 0 1 = 4; points 0 2 = 0");
        Script.run("fight 0 1", Script.each(1, 80, "blow 0 1 9"), "points 0 1 = 720; points 0 0 = 0; end 0 = 1",
                "points 0 1 = 720");
        // One player's points in one fight are not those in another.
        Script.run("fight 0 1; blow 0 0 2; end 0; fight 2 0; blow 1 0 3; blow 1 2 1; points 0 0 = 2; points 1 0 = 3",
                "points 0 2 = 0; points 1 1 = 0");
    }

    private static void framesTheyHaveSeen() {
        Script.run("fight 0 1; blow 0 0 2; overlay 0 0 = 0; pass 10; seen = none; overlay 0 0 = 0; pass 1; seen = 0",
                "overlay 0 0 = 2; overlay 0 1 = 0");
        Script.run("fight 0 1; delay 2; pass 4; blow 0 0 1; pass 1; blow 0 0 2; blow 0 1 8; pass 1; blow 0 0 4",
                "seen = 3",
                "overlay 0 0 = 0; pass 1; seen = 4; overlay 0 0 = 1; overlay 0 1 = 0; pass 1; overlay 0 0 = 3",
                "overlay 0 1 = 8; pass 1; overlay 0 0 = 7; pass 5; overlay 0 0 = 7; points 0 0 = 7; overlay 0 2 = 0");
        // Behind the end of the fight its frames are still to be seen.
        Script.run("fight 0 1; blow 0 0 2; end 0; overlay 0 0 = 0; pass 10; overlay 0 0 = 0; pass 1; overlay 0 0 = 2");
    }

    private static void asTheyAreNow() {
        Script.run("fight 0 1; blow 0 0 2; blow 0 0 3; mend 0 7; pass 10; overlay 0 0 = 0; strike 1; pass 1",
                "overlay 0 0 = 7",
                "mend 0 1; overlay 0 0 = 1; strike 0; overlay 0 0 = 0; pass 20; overlay 0 0 = 0");
        Script.run("fight 0 1; blow 0 0 2; pass 11; overlay 0 0 = 2; end 0; overlay 0 0 = 2; replay 0; overlay 0 0 = 0",
                "overlay 1 0 = 0; points 0 0 = 0");
    }

    private static void wonByMorePoints() {
        Script.run("fight 7 2; end 0 = none; fightOf 0 0 = 1; fightOf 0 3 = none; leader 0 = 0");
        Script.run("fight 7 2; blow 0 7 5; blow 0 2 5; end 0 = none; fightOf 0 3 = none; leader 0 = 0; points 0 7 = 5");
        Script.run("fight 7 2; blow 0 7 5; blow 0 2 6; end 0 = 2; fightOf 0 3 = 2; leader 0 = 2; end 0 = state");
        Script.run("fight 7 2; blow 0 7 6; blow 0 2 5; end 0 = 7; fightOf 0 3 = 7; leader 0 = 7");
        // It is points that are compared, not blows; those that viewers have not seen, too.
        Script.run("fight 7 2; blow 0 7 1; blow 0 7 1; blow 0 7 1; pass 50; blow 0 2 4; end 0 = 2; overlay 0 2 = 0");
        Script.run("fight 7 2; blow 0 7 1; blow 0 2 9; strike 1; end 0 = 7");
        Script.run("fight 7 2; blow 0 7 1; blow 0 2 9; mend 1 1; end 0 = none");
        Script.run("fight 0 9; blow 0 0 1; end 0 = 0; fightOf 0 3 = 0; fight 0 9; blow 1 9 1; end 1 = 9; leader 0 = 0");
    }

    private static void onceForEach() {
        Script.run("fight 0 1; replay 0 = state; end 0; replay 0 = 1; replay 0 = state; end 1; replay 0 = state",
                "replay 1 = 2; replay 1 = state; replay 2 = state; end 2; replay 0 = state; replay 2 = 3",
                "fightOf 0 0 = 2; fightOf 1 0 = 2; fightOf 2 0 = 2; fightOf 3 0 = 0");
        Script.run("replay 0 = bounds; fight 0 1; end 0; replay 1 = bounds; replay -1 = bounds; replay most = bounds",
                "fightOf 0 0 = 1; replay 0 = 1");
        // An end of a REPLAYED one is refused, and it does not bind its players.
        Script.run("fight 0 1; end 0; replay 0 = 1; end 0 = state; end 1; end 0 = state; fightOf 0 0 = 2",
                "fight 1 0 = 2");
    }

    private static void beginsAtOnce() {
        Script.run(ON_AIR, "fight 3 1; pass 4; end 0; replay 0 = 1; fightOf 1 0 = 0; fightOf 1 1 = 3; fightOf 1 2 = 1",
                "fightOf 1 3 = none; fightOf 1 4 = 0; points 1 3 = 0; fight 3 4 = state; fight 4 1 = state",
                "blow 1 3 2 = 0",
                "pass 1; shown 4 0 = 1; fightOf 1 4 = 1; fightOf 0 4 = 4");
    }

    private static void allItsEntriesAreStruck() {
        Script.run("fight 0 1; fight 2 3; blow 0 0 1; blow 1 2 2; blow 0 1 3; blow 0 0 4; strike 3; pass 20; end 0 = 1",
                "replay 0; fightOf 0 0 = 2; fightOf 0 3 = none; points 0 0 = 0; points 0 1 = 0; overlay 0 1 = 0",
                "points 1 2 = 2; overlay 1 2 = 2; strike 0 = state; strike 2 = state; strike 3 = state",
                "mend 0 1 = state",
                "mend 1 5 = 2; strike 1 = 5");
        // The first and the last entry of the log are struck too.
        Script.run("fight 0 1", Script.each(0, 79, "blow 0 1 2 = #"), "end 0 = 1; replay 0 = 1; points 0 1 = 0",
                "strike 0 = state; strike 79 = state; blow 1 0 1 = state");
    }

    private static void countForNoSponsor() {
        Script.run(ON_AIR, "promise 2 5; slot 2 0; fight 0 1; pass 1; end 0; counted 2 = 1; owed 2 = 4; replay 0",
                "counted 2 = 0; countedAnew 2 = 0; owed 2 = 5; shown 0 2 = none; shown 0 0 = 0; shown 0 1 = 0",
                "fightOf 0 4 = 1; pass 6; counted 2 = 5; countedAnew 2 = 5; owed 2 = 0; shown 1 2 = 2; shown 5 2 = 2",
                "shown 6 2 = none; shown 0 2 = none");
        // Frame 0 and the one ahead of now are taken back alike, those of all its sponsors.
        Script.run(ON_AIR, "promise 0 2; promise 5 3; slot 0 0; slot 5 1; fight 0 1; pass 5; shown 0 2 = 5",
                "shown 4 2 = 5",
                "counted 0 = 2; counted 5 = 3; end 0; replay 0; counted 0 = 0; counted 5 = 0; countedAnew 0 = 0",
                "countedAnew 5 = 0", Script.each(0, 4, "shown # 2 = none"));
        // What is promised less than counts is owed again as soon as the replay takes frames back.
        Script.run(ON_AIR, "promise 0 9; slot 0 0; fight 0 1; pass 9; promise 0 4 = 9; owed 0 = 0; end 0; replay 0",
                "owed 0 = 4");
    }

    private static void otherFramesStay() {
        // Sponsor 1 is owed more than sponsor 0 behind the replay, but frames 2 and 3 stay with sponsor 0.
        Script.run(ON_AIR, "promise 0 9; promise 1 8; slot 1 0; slot 0 2; slot 1 2; fight 0 1; pass 2",
                "shown 1 2 = 1; end 0",
                "fight 2 3; pass 2; shown 2 2 = 0; shown 3 2 = 0; end 1; replay 0; shown 2 2 = 0; shown 3 2 = 0",
                "counted 0 = 2; countedAnew 0 = 2; counted 1 = 0; countedAnew 1 = 0; shown 0 2 = none; owed 1 = 8");
        // Of two fights of the same players one is replayed.
        Script.run(ON_AIR, "promise 0 9; slot 0 0; fight 0 1; pass 2; end 0; fight 0 1; pass 3; end 1; replay 1 = 2",
                "counted 0 = 2; countedAnew 0 = 2; shown 1 2 = 0; shown 2 2 = none; shown 4 2 = none; fightOf 1 4 = 3");
        // Neither slots nor promises that are told behind a frame change what it counts for.
        Script.run(ON_AIR, "fight 0 1; pass 1; shown 0 2 = none; slot 0 0; pass 1; shown 1 2 = none; promise 0 9",
                "pass 1",
                "shown 0 2 = none; shown 1 2 = none; shown 2 2 = 0; promise 1 99; slot 1 0; shown 2 2 = 0; promise 0 0",
                "shown 2 2 = 0; counted 0 = 1; countedAnew 0 = 1; pass 1; shown 3 2 = 1");
        // Nor does the end of a fight that is not replayed.
        Script.run(ON_AIR, "promise 0 9; slot 0 0; fight 0 1; pass 2; end 0; pass 2; counted 0 = 2; shown 1 2 = 0");
    }

    private static void sponsors() {
        Script.run(Script.each(0, 5, "owed # = 0; counted # = 0; countedAnew # = 0; promise # 1# = 0; owed # = 1#"),
                "promise 6 1 = bounds; promise -1 1 = bounds; owed 6 = bounds; owed -1 = bounds; promise 0 0 = 10");
        Script.run("promise 3 1000 = 0; promise 3 1001 = argument; owed 3 = 1000; promise 3 999 = 1000; owed 3 = 999",
                "promise 3 -1 = argument; promise 3 0 = 999; owed 3 = 0; promise 3 1 = 0; owed 3 = 1; promise 3 2 = 1");
        // All of a thousand frames can count.
        Script.run(ON_AIR, "promise 4 1000; slot 4 0; fight 0 1", Script.each(1, 5, "pass 199"), "pass 4; frame = 999",
                "counted 4 = 999; countedAnew 4 = 999; owed 4 = 1; pass 1; counted 4 = 1000; owed 4 = 0; pass 200",
                "counted 4 = 1000; countedAnew 4 = 1000; owed 4 = 0; shown 999 2 = 4; shown 1000 2 = none");
    }

    private static void atMostTwelveSlots() {
        Script.run(Script.each(0, 4, "slot # 0; slot # 9"), "slot 5 0 = 11; slot 5 0 = state; slot 5 9 = 12",
                "slot 5 1 = state; slot 5 9 = state; slot 0 1 = state");
        // A slot that is refused brings its sponsor nothing.
        Script.run(ON_AIR, Script.each(0, 5, "slot # 8; slot # 9"), "slot 0 0 = state; promise 0 9; fight 0 1; pass 1",
                "shown 0 2 = none");
        // Ten of one sponsor, all of which bring it frames; such a slot is one of both the same.
        Script.run(ON_AIR, "promise 2 99", Script.each(0, 9, "slot 2 #"), "slot 2 9 = state; slot 2 0 = state",
                "slot 3 9 = 11",
                Script.each(0, 4, "fight # 9 = #; pass 1; shown # 2 = 2; end #"), "slot 3 8 = 12; slot 3 7 = state");
        Script.run("slot 0 1 = 1; slot 1 0 = 2; slot 0 0 = 3; slot 1 1 = 4; slot 0 1 = state; slot 1 0 = state",
                "slot 6 0 = bounds; slot -1 0 = bounds; slot 0 10 = bounds; slot 0 -1 = bounds; slot 5 9 = 5");
    }

    private static void slotsForItsPlayers() {
        Script.run(ON_AIR, "promise 0 9; slot 0 2; fight 1 2 = 0; pass 1; shown 0 2 = 0; end 0; fight 2 3 = 1; pass 1",
                "shown 1 2 = 0; end 1; fight 1 3 = 2; pass 1; shown 2 2 = none; counted 0 = 2");
        // Slots for both players count a frame once.
        Script.run(ON_AIR, "promise 0 9; slot 0 0; slot 0 1; fight 0 1; pass 3; counted 0 = 3; countedAnew 0 = 3",
                "owed 0 = 6");
        // The slots are asked for the fight that is shown, not for others that go on.
        Script.run(ON_AIR, "promise 0 9; promise 1 3; slot 0 2; slot 1 0; fight 0 1; fight 2 3; pass 1; shown 0 2 = 1",
                "rank 2 1; pass 1; shown 1 2 = 0");
    }

    private static void owedMost() {
        String both = ON_AIR + "slot 0 0; slot 1 1; fight 0 1; ";
        Script.run(both, "promise 0 4; promise 1 5; pass 1; shown 0 2 = 1");
        Script.run(both, "promise 0 6; promise 1 5; pass 1; shown 0 2 = 0");
        // What counts is taken off, in each frame anew.
        Script.run(both, "promise 0 2; promise 1 4; pass 7", "shown 0 2 = 1; shown 1 2 = 1; shown 2 2 = 0",
                "shown 3 2 = 1",
                "shown 4 2 = 0; shown 5 2 = 1; shown 6 2 = none; counted 0 = 2; counted 1 = 4");
        // One that is owed most, but has no slot for one of both, is not one of these.
        Script.run(both, "promise 2 99; slot 2 2; promise 0 1; pass 2; shown 0 2 = 0; shown 1 2 = none; owed 2 = 99");
        // A promise of now is asked, not what was.
        Script.run(both, "promise 0 9; promise 1 5; pass 1; promise 0 2; pass 1; shown 0 2 = 0; shown 1 2 = 1",
                "owed 0 = 1");
    }

    private static void ofSeveralTheLowest() {
        Script.run(ON_AIR, "slot 5 0; slot 3 1; slot 4 0; promise 3 2; promise 4 2; promise 5 2; fight 0 1; pass 7",
                "shown 0 2 = 3; shown 1 2 = 4; shown 2 2 = 5; shown 3 2 = 3; shown 4 2 = 4; shown 5 2 = 5",
                "shown 6 2 = none");
        Script.run(ON_AIR, "slot 5 0; slot 0 1; promise 5 1; promise 0 1; fight 0 1; pass 2; shown 0 2 = 0",
                "shown 1 2 = 5");
    }

    private static void noneIsOwed() {
        // Owed one frame is something, owed none is not.
        Script.run(ON_AIR, "slot 0 0; promise 0 1; fight 0 1; pass 2; shown 0 2 = 0; shown 1 2 = none; counted 0 = 1");
        Script.run(ON_AIR, "slot 0 0; fight 0 1; pass 2; shown 0 2 = none; counted 0 = 0; owed 0 = 0");
        // Less promised than counts is owed as none, not as less than none.
        Script.run(ON_AIR, "slot 0 0; promise 0 3; fight 0 1; pass 3; promise 0 1; owed 0 = 0; counted 0 = 3; pass 1",
                "shown 3 2 = none; promise 0 3; owed 0 = 0; pass 1; shown 4 2 = none; promise 0 4; owed 0 = 1; pass 2",
                "shown 5 2 = 0; shown 6 2 = none; counted 0 = 4; countedAnew 0 = 4");
        // No sponsor has a slot.
        Script.run(ON_AIR, "promise 0 9; fight 0 1; pass 1; shown 0 2 = none; owed 0 = 9");
    }

    private static void listedFirst() {
        Script.run("rank 10 100 = bounds; rank -1 -1 = bounds; rank 0 100 = argument; promise 6 1001 = bounds",
                "promise -1 -1 = bounds; promise 5 1001 = argument; fight 10 10 = bounds; fight -1 -1 = bounds");
        Script.run("fight 0 1; fight 0 10 = bounds; fight -1 1 = bounds; fight 0 0 = argument; fight 1 1 = argument",
                "fight 0 1 = state; shown 0 3 = bounds; shown 0 -1 = bounds; pass 1; shown 1 3 = bounds",
                "shown 0 3 = argument",
                "fightOf 1 5 = bounds; fightOf -1 -1 = bounds; fightOf 0 5 = argument; cameraOf 0 2 = bounds",
                "camera 1 1; cameraOf 0 2 = argument; cameraOf 1 2 = bounds; cameraOf -1 -1 = bounds");
        Script.run(Script.each(0, 19, "fight 0 1 = #; end #"), "fight 0 1 = state; fight 2 2 = argument",
                "fight 0 10 = bounds; replay 20 = bounds; replay 19 = state");
        Script.run(Script.each(0, 5, "camera 1 1 = #"), "camera 0 1 = argument; camera 61 1 = argument",
                "camera 1 1 = state",
                "camera 1 61 = argument; camera 1 -1 = argument");
        Script.run(Script.each(1, 15, "pass 200"), "pass 0 = argument; pass -1 = argument; pass 201 = argument",
                "pass most = argument; pass least = argument; pass 1 = state");
        Script.run("fight 0 1; blow 1 10 0 = bounds; blow 0 10 0 = bounds; blow 1 0 1 = bounds; blow 0 2 1 = argument",
                "blow 0 0 10 = argument; end 0; blow 0 10 1 = bounds; blow 0 2 1 = argument; blow 0 0 10 = argument",
                "blow 0 0 1 = state; blow 1 0 1 = bounds");
        Script.run("fight 0 1", Script.each(0, 79, "blow 0 0 1 = #"), "blow 0 0 10 = argument; blow 0 2 1 = argument",
                "blow 0 10 1 = bounds; blow 1 0 1 = bounds; blow 0 0 1 = state; mend 80 0 = bounds; strike 0",
                "mend 0 0 = argument; mend 0 10 = argument; mend 0 1 = state; end 0; mend 1 10 = argument",
                "mend 1 1 = state");
        Script.run(Script.each(0, 5, "slot # 0; slot # 1"), "slot 6 0 = bounds; slot 0 10 = bounds; slot 0 0 = state");
    }

    private static void noSuch() {
        refusedOutside("10", "rank # 5 = bounds; fight # 4 = bounds; fight 4 # = bounds; blow 0 # 1 = bounds; "
                + "slot 0 # = bounds; points 0 # = bounds; overlay 0 # = bounds; leader # = bounds");
        refusedOutside("2", "end # = bounds; replay # = bounds; blow # 0 1 = bounds; points # 0 = bounds; "
                + "overlay # 0 = bounds; fightOf # 0 = bounds; strike # = bounds; mend # 1 = bounds");
        refusedOutside("6", "promise # 5 = bounds; slot # 5 = bounds; counted # = bounds; countedAnew # = bounds; "
                + "owed # = bounds");
        refusedOutside("1", "cameraOf # 0 = bounds; cameraOf # 1 = bounds");
        refusedOutside("12", "shown # 0 = bounds; shown # 1 = bounds; shown # 2 = bounds");
    }

    /** Each # stands for a number below all there are, or from the first one on that is above. */
    private static void refusedOutside(String firstAbove, String calls) {
        for (String number : new String[] {"-1", firstAbove, firstAbove + "0", "least", "most"}) {
            Script.run("fight 0 1; fight 2 3; camera 5 5; blow 0 0 3; blow 1 3 4; promise 1 9; slot 1 2; pass 12",
                "rank 3 3",
                    calls.replace("#", number));
        }
    }
}
