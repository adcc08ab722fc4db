import java.util.ArrayList;
import java.util.HashSet;
import java.util.List;
import java.util.Set;

/**
 * The document once more, for tests alone: it keeps only what happened, frame by frame and call by call,
 * and finds each answer anew from that, where Castdesk keeps running numbers.
 */
final class PlainDesk {
    private static final int NONE = -1;

    private static final class Bout {
        int first;
        int second;
        int state;
    }

    private static final class Blow {
        int fight;
        int player;
        int frame;
        int points;
        boolean struck;
    }

    private static final class Passed {
        int fight = NONE;
        int camera = NONE;
        int sponsorThen = NONE;
    }

    private final int[] ranks = new int[10];
    private final List<Bout> bouts = new ArrayList<>();
    private final List<Blow> blows = new ArrayList<>();
    private final List<int[]> cameras = new ArrayList<>();
    private final List<Passed> passed = new ArrayList<>();
    private final int[] promised = new int[6];
    private final Set<Integer> slots = new HashSet<>();
    private int delay = 10;
    /** What viewers might have seen behind each frame and each call that told the delay. */
    private final List<Integer> sights = new ArrayList<>();

    int call(String name, int a, int b, int c) {
        switch (name) {
            case "rank": return rank(a, b);
            case "fight": return fight(a, b);
            case "end": return end(a);
            case "replay": return replay(a);
            case "camera": return camera(a, b);
            case "delay": return delay(a);
            case "pass": return pass(a);
            case "blow": return blow(a, b, c);
            case "strike": return strike(a);
            case "mend": return mend(a, b);
            case "promise": return promise(a, b);
            case "slot": return slot(a, b);
            case "frame": return passed.size();
            case "shown": return shown(a, b);
            case "seen": return seen();
            case "points": need(isFight(a) && isPlayer(b)); return points(a, b, passed.size());
            case "overlay": need(isFight(a) && isPlayer(b)); return points(a, b, seen());
            case "fightOf": return fightOf(a, b);
            case "cameraOf": return cameraOf(a, b);
            case "counted": need(in(a, 0, 5)); return counted(a);
            case "countedAnew": need(in(a, 0, 5)); return counted(a);
            case "owed": need(in(a, 0, 5)); return owed(a);
            case "leader": return leader(a);
            default: throw new AssertionError(name);
        }
    }

    private static boolean in(int value, int least, int most) {
        return least <= value && value <= most;
    }

    private static boolean isPlayer(int player) {
        return in(player, 0, 9);
    }

    private boolean isFight(int fight) {
        return in(fight, 0, bouts.size() - 1);
    }

    private static void need(boolean isThere) {
        if (!isThere) {
            throw new IndexOutOfBoundsException();
        }
    }

    private static void argument(boolean isFine) {
        if (!isFine) {
            throw new IllegalArgumentException();
        }
    }

    private static void state(boolean isFine) {
        if (!isFine) {
            throw new IllegalStateException();
        }
    }

    private boolean fights(int player) {
        return bouts.stream().anyMatch(b -> b.state == 0 && (b.first == player || b.second == player));
    }

    private int rank(int player, int rank) {
        need(isPlayer(player));
        argument(in(rank, 0, 99));
        int was = ranks[player];
        ranks[player] = rank;
        return was;
    }

    private int fight(int first, int second) {
        need(isPlayer(first) && isPlayer(second));
        argument(first != second);
        state(!fights(first) && !fights(second) && bouts.size() < 20);
        Bout bout = new Bout();
        bout.first = first;
        bout.second = second;
        bouts.add(bout);
        return bouts.size() - 1;
    }

    private int end(int fight) {
        need(isFight(fight));
        state(bouts.get(fight).state == 0);
        bouts.get(fight).state = 1;
        return winner(fight);
    }

    private int winner(int fight) {
        Bout bout = bouts.get(fight);
        int difference = points(fight, bout.first, 5000) - points(fight, bout.second, 5000);
        return bout.state != 1 || difference == 0 ? NONE : difference > 0 ? bout.first : bout.second;
    }

    private int replay(int fight) {
        need(isFight(fight));
        Bout bout = bouts.get(fight);
        state(bout.state == 1 && !fights(bout.first) && !fights(bout.second) && bouts.size() < 20);
        bout.state = 2;
        return fight(bout.first, bout.second);
    }

    private int camera(int stamina, int rest) {
        argument(in(stamina, 1, 60) && in(rest, 0, 60));
        state(cameras.size() < 6);
        cameras.add(new int[] {stamina, rest});
        return cameras.size() - 1;
    }

    private int delay(int frames) {
        argument(in(frames, 0, 100));
        int was = delay;
        delay = frames;
        sights.add(passed.size() - 1 - delay);
        return was;
    }

    private int seen() {
        return sights.stream().mapToInt(Integer::intValue).filter(s -> s >= 0).max().orElse(NONE);
    }

    private int pass(int frames) {
        argument(in(frames, 1, 200));
        state(passed.size() + frames <= 3000);
        for (int i = 0; i < frames; i++) {
            Passed next = new Passed();
            int fight = hottest();
            int camera = nextCamera();
            if (fight != NONE && camera != NONE) {
                next.fight = fight;
                next.camera = camera;
                next.sponsorThen = sponsorFor(fight);
            }
            passed.add(next);
            sights.add(passed.size() - 1 - delay);
        }
        return passed.size();
    }

    private int heat(int fight) {
        int now = passed.size();
        long frames = blows.stream().filter(b -> b.fight == fight && in(b.frame, now - 5, now - 1))
                .mapToInt(b -> b.frame).distinct().count();
        return ranks[bouts.get(fight).first] + ranks[bouts.get(fight).second] + 10 * (int) frames;
    }

    private int hottest() {
        List<Integer> best = new ArrayList<>();
        for (int fight = 0; fight < bouts.size(); fight++) {
            if (bouts.get(fight).state == 0) {
                if (!best.isEmpty() && heat(fight) > heat(best.get(0))) {
                    best.clear();
                }
                if (best.isEmpty() || heat(fight) == heat(best.get(0))) {
                    best.add(fight);
                }
            }
        }
        int ahead = passed.isEmpty() ? NONE : passed.get(passed.size() - 1).fight;
        return best.isEmpty() ? NONE : best.contains(ahead) ? ahead : best.get(0);
    }

    /** How many frames, one behind the other, a camera was on air up to one. */
    private int runUpTo(int camera, int frame) {
        int run = 0;
        while (frame - run >= 0 && passed.get(frame - run).camera == camera) {
            run++;
        }
        return run;
    }

    private int toBeOff(int camera) {
        int last = passed.size() - 1;
        while (last >= 0 && passed.get(last).camera != camera) {
            last--;
        }
        if (last < 0 || runUpTo(camera, last) < cameras.get(camera)[0]) {
            return 0;
        }
        int off = passed.size() - 1 - last;
        return Math.max(0, Math.max(1, cameras.get(camera)[1]) - off);
    }

    private int nextCamera() {
        int ahead = passed.isEmpty() ? NONE : passed.get(passed.size() - 1).camera;
        if (ahead != NONE && toBeOff(ahead) == 0) {
            return ahead;
        }
        for (int camera = 0; camera < cameras.size(); camera++) {
            if (toBeOff(camera) == 0) {
                return camera;
            }
        }
        return NONE;
    }

    private int sponsorFor(int fight) {
        int found = NONE;
        for (int sponsor = 5; sponsor >= 0; sponsor--) {
            boolean slot = slots.contains(sponsor * 10 + bouts.get(fight).first)
                    || slots.contains(sponsor * 10 + bouts.get(fight).second);
            if (slot && owed(sponsor) > 0 && (found == NONE || owed(sponsor) >= owed(found))) {
                found = sponsor;
            }
        }
        return found;
    }

    private int sponsorNow(Passed frame) {
        return frame.fight == NONE || bouts.get(frame.fight).state == 2 ? NONE : frame.sponsorThen;
    }

    private int counted(int sponsor) {
        return (int) passed.stream().filter(f -> sponsorNow(f) == sponsor).count();
    }

    private int owed(int sponsor) {
        return Math.max(0, promised[sponsor] - counted(sponsor));
    }

    private int blow(int fight, int player, int points) {
        need(isFight(fight) && isPlayer(player));
        Bout bout = bouts.get(fight);
        argument(in(points, 1, 9) && (player == bout.first || player == bout.second));
        state(bout.state == 0 && blows.size() < 80);
        Blow blow = new Blow();
        blow.fight = fight;
        blow.player = player;
        blow.frame = passed.size();
        blow.points = points;
        blows.add(blow);
        return blows.size() - 1;
    }

    private int strike(int entry) {
        need(in(entry, 0, blows.size() - 1));
        Blow blow = blows.get(entry);
        state(!blow.struck && bouts.get(blow.fight).state == 0);
        blow.struck = true;
        return blow.points;
    }

    private int mend(int entry, int points) {
        need(in(entry, 0, blows.size() - 1));
        Blow blow = blows.get(entry);
        argument(in(points, 1, 9));
        state(!blow.struck && bouts.get(blow.fight).state == 0);
        int was = blow.points;
        blow.points = points;
        return was;
    }

    private int points(int fight, int player, int upTo) {
        return bouts.get(fight).state == 2 ? 0 : blows.stream()
                .filter(b -> b.fight == fight && b.player == player && !b.struck && b.frame <= upTo)
                .mapToInt(b -> b.points).sum();
    }

    private int promise(int sponsor, int frames) {
        need(in(sponsor, 0, 5));
        argument(in(frames, 0, 1000));
        int was = promised[sponsor];
        promised[sponsor] = frames;
        return was;
    }

    private int slot(int sponsor, int player) {
        need(in(sponsor, 0, 5) && isPlayer(player));
        state(slots.size() < 12 && slots.add(sponsor * 10 + player));
        return slots.size();
    }

    private int shown(int frame, int what) {
        need(in(frame, 0, passed.size() - 1));
        argument(in(what, 0, 2));
        Passed asked = passed.get(frame);
        return what == 0 ? asked.fight : what == 1 ? asked.camera : sponsorNow(asked);
    }

    private int fightOf(int fight, int what) {
        need(isFight(fight));
        argument(in(what, 0, 4));
        Bout bout = bouts.get(fight);
        return what == 0 ? bout.state : what == 1 ? bout.first : what == 2 ? bout.second
                : what == 3 ? winner(fight) : (int) passed.stream().filter(f -> f.fight == fight).count();
    }

    private int cameraOf(int camera, int what) {
        need(in(camera, 0, cameras.size() - 1));
        argument(in(what, 0, 1));
        return what == 0 ? runUpTo(camera, passed.size() - 1) : toBeOff(camera);
    }

    private int leader(int place) {
        need(in(place, 0, 9));
        List<Integer> order = new ArrayList<>();
        for (int player = 0; player < 10; player++) {
            order.add(player);
        }
        // The sort is stable, so of several the lower one stays first.
        order.sort((a, b) -> Long.compare(won(b), won(a)));
        return order.get(place);
    }

    private long won(int player) {
        long won = 0;
        for (int fight = 0; fight < bouts.size(); fight++) {
            won += winner(fight) == player ? 1 : 0;
        }
        return won;
    }
}
