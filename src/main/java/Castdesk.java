import java.util.ArrayList;

/** A broadcast of a tournament, as ../shared/DOC.md promises it. */
public final class Castdesk {
    public static final int NONE = -1;
    public static final int GOING = 0, OVER = 1, REPLAYED = 2;

    private static final int PLAYERS = 10;
    private static final int SPONSORS = 6;
    private static final int MOST_FIGHTS = 20;
    private static final int MOST_CAMERAS = 6;
    private static final int MOST_ENTRIES = 80;
    private static final int MOST_SLOTS = 12;
    private static final int LAST_FRAME = 3000;

    private static final int HIGHEST_RANK = 99;
    private static final int LONGEST_STAMINA = 60;
    private static final int LONGEST_REST = 60;
    private static final int LONGEST_DELAY = 100;
    private static final int LONGEST_PASS = 200;
    private static final int MOST_POINTS = 9;
    private static final int MOST_PROMISED = 1000;

    private static final int FIRST_DELAY = 10;
    private static final int HEAT_OF_A_BLOW_FRAME = 10;
    /** Bits 1 to 5, for the 5 frames ahead of now; bit 0 is now. */
    private static final int BITS_OF_HEAT = 0b111110;

    private final int[] ranks;
    private final int[] wins;
    private final ArrayList<Fight> fights;
    private final ArrayList<Camera> cameras;
    private final ArrayList<Entry> entries;

    private final int[] promised;
    private final int[] countedFrames;
    /** For each sponsor a bit for each player that it has a slot for. */
    private final int[] slotPlayers;
    private int slots;

    private int now;
    private int delayFrames;
    private int seenUpTo;
    private final int[] shownFight;
    private final int[] shownCamera;
    private final int[] shownSponsor;

    private static final class Fight {
        final int number;
        final int first;
        final int second;
        int state;
        /** NONE unless the fight is OVER: a fight that is replayed has no winner any more. */
        int winner;
        int framesShown;
        /** Bit k is set if a blow was logged k frames ahead of now, whatever became of it. */
        int blowFrames;

        Fight(int number, int first, int second) {
            this.number = number;
            this.first = first;
            this.second = second;
            state = GOING;
            winner = NONE;
        }

        boolean isOf(int player) {
            return player == first || player == second;
        }

        void heatUp() {
            blowFrames |= 1;
        }

        int heatOfBlows() {
            return HEAT_OF_A_BLOW_FRAME * Integer.bitCount(blowFrames & BITS_OF_HEAT);
        }

        void letFramePass() {
            blowFrames <<= 1;
        }
    }

    private static final class Camera {
        final int stamina;
        final int rest;
        /** Frames on air one behind the other, up to the one ahead of now. */
        int onAir;
        int toBeOff;

        Camera(int stamina, int rest) {
            this.stamina = stamina;
            this.rest = rest;
        }

        void passOnAir() {
            onAir++;
            if (onAir >= stamina) {
                toBeOff = Math.max(rest, 1);
            }
        }

        void passOff() {
            onAir = 0;
            toBeOff = Math.max(toBeOff - 1, 0);
        }
    }

    private static final class Entry {
        final Fight fight;
        final int player;
        final int frame;
        int points;
        boolean struck;

        Entry(Fight fight, int player, int frame, int points) {
            this.fight = fight;
            this.player = player;
            this.frame = frame;
            this.points = points;
        }

        boolean canBeCorrected() {
            return !struck && fight.state == GOING;
        }
    }

    public Castdesk() {
        ranks = new int[PLAYERS];
        wins = new int[PLAYERS];
        fights = new ArrayList<>();
        cameras = new ArrayList<>();
        entries = new ArrayList<>();
        promised = new int[SPONSORS];
        countedFrames = new int[SPONSORS];
        slotPlayers = new int[SPONSORS];
        delayFrames = FIRST_DELAY;
        seenUpTo = NONE;
        shownFight = new int[LAST_FRAME];
        shownCamera = new int[LAST_FRAME];
        shownSponsor = new int[LAST_FRAME];
    }

    // ---- fights, cameras, the delay

    public int rank(int player, int rank) throws IndexOutOfBoundsException, IllegalArgumentException {
        checkPlayer(player);
        checkRange(rank, 0, HIGHEST_RANK);
        int before = ranks[player];
        ranks[player] = rank;
        return before;
    }

    public int fight(int first, int second)
            throws IndexOutOfBoundsException, IllegalArgumentException, IllegalStateException {
        checkPlayer(first);
        checkPlayer(second);
        if (first == second) {
            throw new IllegalArgumentException("a fight is of two players");
        }
        checkCanBegin(first, second);
        return begin(first, second);
    }

    public int end(int fight) throws IndexOutOfBoundsException, IllegalStateException {
        Fight ended = fightNumbered(fight);
        checkGoesOn(ended);
        int ofFirst = pointsUpTo(now, ended, ended.first);
        int ofSecond = pointsUpTo(now, ended, ended.second);
        ended.state = OVER;
        if (ofFirst != ofSecond) {
            ended.winner = ofFirst > ofSecond ? ended.first : ended.second;
            wins[ended.winner]++;
        }
        return ended.winner;
    }

    public int replay(int fight) throws IndexOutOfBoundsException, IllegalStateException {
        Fight replayed = fightNumbered(fight);
        if (replayed.state != OVER) {
            throw new IllegalStateException("the fight is not over");
        }
        checkCanBegin(replayed.first, replayed.second);
        if (replayed.winner != NONE) {
            wins[replayed.winner]--;
            replayed.winner = NONE;
        }
        replayed.state = REPLAYED;
        strikeAllOf(replayed);
        uncountFramesOf(replayed);
        return begin(replayed.first, replayed.second);
    }

    public int camera(int stamina, int rest) throws IllegalArgumentException, IllegalStateException {
        checkRange(stamina, 1, LONGEST_STAMINA);
        checkRange(rest, 0, LONGEST_REST);
        if (cameras.size() >= MOST_CAMERAS) {
            throw new IllegalStateException("there are 6 cameras");
        }
        cameras.add(new Camera(stamina, rest));
        return cameras.size() - 1;
    }

    public int delay(int frames) throws IllegalArgumentException {
        checkRange(frames, 0, LONGEST_DELAY);
        int before = delayFrames;
        delayFrames = frames;
        letViewersSee();
        return before;
    }

    public int pass(int frames) throws IllegalArgumentException, IllegalStateException {
        checkRange(frames, 1, LONGEST_PASS);
        if (now + frames > LAST_FRAME) {
            throw new IllegalStateException("the frame would be above 3000");
        }
        for (int i = 0; i < frames; i++) {
            passOne();
        }
        return now;
    }

    // ---- the log, slots

    public int blow(int fight, int player, int points)
            throws IndexOutOfBoundsException, IllegalArgumentException, IllegalStateException {
        Fight hit = fightNumbered(fight);
        checkPlayer(player);
        checkRange(points, 1, MOST_POINTS);
        if (!hit.isOf(player)) {
            throw new IllegalArgumentException("the player is none of both");
        }
        checkGoesOn(hit);
        if (entries.size() >= MOST_ENTRIES) {
            throw new IllegalStateException("there are 80 entries");
        }
        hit.heatUp();
        entries.add(new Entry(hit, player, now, points));
        return entries.size() - 1;
    }

    public int strike(int entry) throws IndexOutOfBoundsException, IllegalStateException {
        Entry struck = entryNumbered(entry);
        checkCanBeCorrected(struck);
        struck.struck = true;
        return struck.points;
    }

    public int mend(int entry, int points)
            throws IndexOutOfBoundsException, IllegalArgumentException, IllegalStateException {
        Entry mended = entryNumbered(entry);
        checkRange(points, 1, MOST_POINTS);
        checkCanBeCorrected(mended);
        int before = mended.points;
        mended.points = points;
        return before;
    }

    public int promise(int sponsor, int frames) throws IndexOutOfBoundsException, IllegalArgumentException {
        checkSponsor(sponsor);
        checkRange(frames, 0, MOST_PROMISED);
        int before = promised[sponsor];
        promised[sponsor] = frames;
        return before;
    }

    public int slot(int sponsor, int player) throws IndexOutOfBoundsException, IllegalStateException {
        checkSponsor(sponsor);
        checkPlayer(player);
        int bit = 1 << player;
        if ((slotPlayers[sponsor] & bit) != 0) {
            throw new IllegalStateException("there is such a slot");
        }
        if (slots >= MOST_SLOTS) {
            throw new IllegalStateException("there are 12 slots");
        }
        slotPlayers[sponsor] |= bit;
        slots++;
        return slots;
    }

    // ---- what is asked

    public int frame() {
        return now;
    }

    public int shown(int frame, int what) throws IndexOutOfBoundsException, IllegalArgumentException {
        if (frame < 0 || frame >= now) {
            throw new IndexOutOfBoundsException("no such frame has passed");
        }
        switch (what) {
            case 0:
                return shownFight[frame];
            case 1:
                return shownCamera[frame];
            case 2:
                return shownSponsor[frame];
            default:
                throw new IllegalArgumentException("what is 0 to 2");
        }
    }

    public int seen() {
        return seenUpTo;
    }

    public int points(int fight, int player) throws IndexOutOfBoundsException {
        Fight asked = fightNumbered(fight);
        checkPlayer(player);
        return pointsUpTo(now, asked, player);
    }

    public int overlay(int fight, int player) throws IndexOutOfBoundsException {
        Fight asked = fightNumbered(fight);
        checkPlayer(player);
        return pointsUpTo(seenUpTo, asked, player);
    }

    public int fightOf(int fight, int what) throws IndexOutOfBoundsException, IllegalArgumentException {
        Fight asked = fightNumbered(fight);
        switch (what) {
            case 0:
                return asked.state;
            case 1:
                return asked.first;
            case 2:
                return asked.second;
            case 3:
                return asked.winner;
            case 4:
                return asked.framesShown;
            default:
                throw new IllegalArgumentException("what is 0 to 4");
        }
    }

    public int cameraOf(int camera, int what) throws IndexOutOfBoundsException, IllegalArgumentException {
        if (camera < 0 || camera >= cameras.size()) {
            throw new IndexOutOfBoundsException("no such camera");
        }
        Camera asked = cameras.get(camera);
        switch (what) {
            case 0:
                return asked.onAir;
            case 1:
                return asked.toBeOff;
            default:
                throw new IllegalArgumentException("what is 0 or 1");
        }
    }

    public int counted(int sponsor) throws IndexOutOfBoundsException {
        checkSponsor(sponsor);
        return countedFrames[sponsor];
    }

    public int countedAnew(int sponsor) throws IndexOutOfBoundsException {
        checkSponsor(sponsor);
        int found = 0;
        for (int frame = 0; frame < now; frame++) {
            if (shownSponsor[frame] == sponsor) {
                found++;
            }
        }
        return found;
    }

    public int owed(int sponsor) throws IndexOutOfBoundsException {
        checkSponsor(sponsor);
        return owedTo(sponsor);
    }

    public int leader(int place) throws IndexOutOfBoundsException {
        if (place < 0 || place >= PLAYERS) {
            throw new IndexOutOfBoundsException("no such place");
        }
        int player = 0;
        // Each player has a place of its own, so the last one has what no other has.
        while (player < PLAYERS - 1 && placeOf(player) != place) {
            player++;
        }
        return player;
    }

    // ---- what is looked at ahead of a call's work

    private static void checkPlayer(int player) {
        if (player < 0 || player >= PLAYERS) {
            throw new IndexOutOfBoundsException("no such player");
        }
    }

    private static void checkSponsor(int sponsor) {
        if (sponsor < 0 || sponsor >= SPONSORS) {
            throw new IndexOutOfBoundsException("no such sponsor");
        }
    }

    private static void checkRange(int value, int least, int most) {
        if (value < least || value > most) {
            throw new IllegalArgumentException("out of range");
        }
    }

    private static void checkGoesOn(Fight fight) {
        if (fight.state != GOING) {
            throw new IllegalStateException("the fight does not go on");
        }
    }

    private static void checkCanBeCorrected(Entry entry) {
        if (!entry.canBeCorrected()) {
            throw new IllegalStateException("the entry is struck, or its fight does not go on");
        }
    }

    private void checkCanBegin(int first, int second) {
        if (fights.size() >= MOST_FIGHTS) {
            throw new IllegalStateException("there are 20 fights");
        }
        for (int i = 0; i < fights.size(); i++) {
            Fight other = fights.get(i);
            if (other.state == GOING && (other.isOf(first) || other.isOf(second))) {
                throw new IllegalStateException("one of both is in a fight that goes on");
            }
        }
    }

    private Fight fightNumbered(int fight) {
        if (fight < 0 || fight >= fights.size()) {
            throw new IndexOutOfBoundsException("no such fight");
        }
        return fights.get(fight);
    }

    private Entry entryNumbered(int entry) {
        if (entry < 0 || entry >= entries.size()) {
            throw new IndexOutOfBoundsException("no such entry");
        }
        return entries.get(entry);
    }

    // ---- fights and their entries

    private int begin(int first, int second) {
        int number = fights.size();
        fights.add(new Fight(number, first, second));
        return number;
    }

    private int pointsUpTo(int frame, Fight fight, int player) {
        int sum = 0;
        for (int i = 0; i < entries.size(); i++) {
            Entry entry = entries.get(i);
            if (entry.fight == fight && entry.player == player && entry.frame <= frame && !entry.struck) {
                sum += entry.points;
            }
        }
        return sum;
    }

    private void strikeAllOf(Fight fight) {
        for (int i = 0; i < entries.size(); i++) {
            Entry entry = entries.get(i);
            if (entry.fight == fight) {
                entry.struck = true;
            }
        }
    }

    private void uncountFramesOf(Fight fight) {
        for (int frame = 0; frame < now; frame++) {
            int sponsor = shownSponsor[frame];
            if (shownFight[frame] == fight.number && sponsor != NONE) {
                countedFrames[sponsor]--;
                shownSponsor[frame] = NONE;
            }
        }
    }

    private int placeOf(int player) {
        int place = 0;
        for (int other = 0; other < PLAYERS; other++) {
            if (wins[other] > wins[player] || wins[other] == wins[player] && other < player) {
                place++;
            }
        }
        return place;
    }

    // ---- a frame that passes

    private void passOne() {
        Fight fight = hottestFight();
        int camera = fight == null ? NONE : cameraForAir();
        shownFight[now] = NONE;
        shownCamera[now] = camera;
        shownSponsor[now] = NONE;
        if (fight != null && camera != NONE) {
            showFight(fight);
        }
        letCamerasPass(camera);
        for (int i = 0; i < fights.size(); i++) {
            fights.get(i).letFramePass();
        }
        now++;
        letViewersSee();
    }

    private Fight hottestFight() {
        int shownAhead = ofFrameAhead(shownFight);
        Fight hottest = null;
        int greatest = 0;
        for (int i = 0; i < fights.size(); i++) {
            Fight fight = fights.get(i);
            if (fight.state == GOING) {
                int heat = heatOf(fight);
                if (hottest == null || heat > greatest || heat == greatest && i == shownAhead) {
                    hottest = fight;
                    greatest = heat;
                }
            }
        }
        return hottest;
    }

    private int heatOf(Fight fight) {
        return ranks[fight.first] + ranks[fight.second] + fight.heatOfBlows();
    }

    private int cameraForAir() {
        int onAirAhead = ofFrameAhead(shownCamera);
        if (canBeOnAir(onAirAhead)) {
            return onAirAhead;
        }
        for (int i = 0; i < cameras.size(); i++) {
            if (canBeOnAir(i)) {
                return i;
            }
        }
        return NONE;
    }

    private boolean canBeOnAir(int camera) {
        return camera >= 0 && camera < cameras.size() && cameras.get(camera).toBeOff == 0;
    }

    private int ofFrameAhead(int[] row) {
        return now > 0 ? row[now - 1] : NONE;
    }

    private void showFight(Fight fight) {
        shownFight[now] = fight.number;
        fight.framesShown++;
        int sponsor = sponsorOwedMost(fight);
        shownSponsor[now] = sponsor;
        if (sponsor != NONE) {
            countedFrames[sponsor]++;
        }
    }

    private int sponsorOwedMost(Fight fight) {
        int bothPlayers = 1 << fight.first | 1 << fight.second;
        int found = NONE;
        int most = 0;
        for (int sponsor = 0; sponsor < SPONSORS; sponsor++) {
            if ((slotPlayers[sponsor] & bothPlayers) != 0 && owedTo(sponsor) > most) {
                found = sponsor;
                most = owedTo(sponsor);
            }
        }
        return found;
    }

    private int owedTo(int sponsor) {
        return Math.max(promised[sponsor] - countedFrames[sponsor], 0);
    }

    private void letCamerasPass(int onAir) {
        for (int i = 0; i < cameras.size(); i++) {
            Camera camera = cameras.get(i);
            if (i == onAir) {
                camera.passOnAir();
            } else {
                camera.passOff();
            }
        }
    }

    private void letViewersSee() {
        // A longer delay takes back nothing that viewers have seen.
        seenUpTo = Math.max(seenUpTo, now - 1 - delayFrames);
    }
}
