/**
 * Long runs of calls, made by a counter alone and so always the same, each answer against Model's:
 * for what only shows after many calls, and that nothing but the document's exceptions is thrown.
 */
public final class WalkTest {
    private static final int WALKS = 3000;
    private static final int CALLS = 512;
    private static final int KINDS_OF_CALLS = 23;
    private static final int BUY = 4;
    private static final int SEAT = 7;
    private static final int GO = 9;
    private static final int ADVANCE = 10;
    private static final int[] FAR = {
        Integer.MIN_VALUE, Integer.MIN_VALUE + 1, -1, Integer.MAX_VALUE - 1, Integer.MAX_VALUE
    };

    private static final int[] mostOf = new int[4];

    private long seed;
    private GameCafe cafe;
    private Model model;
    private boolean shy;
    private final int[] weights = new int[KINDS_OF_CALLS];
    private final StringBuilder call = new StringBuilder();

    public static void main(String[] args) {
        for (int walk = 0; walk < WALKS; walk++) {
            new WalkTest().walk(walk);
        }
        Due.is("some walk bought all copies", 15, mostOf[0]);
        Due.is("some walk seated all groups", 60, mostOf[1]);
        Due.is("some walk came to the last minute", 100000, mostOf[2]);
        Due.is("some walk found all parts", 40, mostOf[3]);
        Due.end();
    }

    private void walk(int walk) {
        seed = walk * 7919L + 1;
        cafe = new GameCafe();
        model = new Model();
        // Half of the walks keep to what there is, so that they come far.
        shy = walk % 2 == 0;
        int sum = 0;
        for (int i = 0; i < KINDS_OF_CALLS; i++) {
            int high = next(4) == 0 ? 12 : 3;
            weights[i] = next(high);
            sum += weights[i];
        }
        weights[BUY] += 1;
        // Every third walk seats many groups, every third one comes to the end of time.
        if (walk % 3 == 0) {
            weights[SEAT] += 25;
            weights[GO] += 25;
            sum += 50;
        } else if (walk % 3 == 1) {
            weights[ADVANCE] += 40;
            sum += 40;
        }
        for (int step = 0; step < CALLS; step++) {
            step(walk, step, pick(next(sum + 1)));
        }
        note();
    }

    private void note() {
        mostOf[0] = Math.max(mostOf[0], cafe.copies());
        mostOf[1] = Math.max(mostOf[1], model.groups.size());
        mostOf[2] = Math.max(mostOf[2], cafe.minute());
        for (int copy = 0; copy < cafe.copies(); copy++) {
            for (int kind = 0; kind < 4; kind++) {
                mostOf[3] = Math.max(mostOf[3], cafe.parts(copy, kind));
            }
        }
    }

    private int pick(int at) {
        for (int i = 0; i < KINDS_OF_CALLS; i++) {
            at -= weights[i];
            if (at < 0) {
                return i;
            }
        }
        return BUY;
    }

    private int next(int bound) {
        seed = seed * 6364136223846793005L + 1442695040888963407L;
        return (int) Math.floorMod(seed >>> 33, (long) bound);
    }

    /** Mostly from least to most; else one beside them, or far away. */
    private int number(int least, int most) {
        int turn = next(shy ? 400 : 40);
        if (turn == 0) {
            return least - 1;
        }
        if (turn == 1) {
            return most + 1;
        }
        if (turn == 2) {
            return FAR[next(FAR.length)];
        }
        return most < least ? least : least + next(most - least + 1);
    }

    private int copy() {
        return number(0, cafe.copies() - 1);
    }

    private int group() {
        int table = next(6);
        int there = (int) model.at(table);
        return there >= 0 && next(8) != 0 ? there : number(0, model.groups.size() - 1);
    }

    private void step(int walk, int step, int kindOfCall) {
        int a;
        int b;
        int c;
        boolean yes = next(2) == 0;
        switch (kindOfCall) {
            case 0: a = number(0, 4); b = number(1, 8); c = number(b, 8); break;
            case 1: a = number(0, 4); b = number(0, 3); c = number(0, 20); break;
            case 2: a = number(0, 5); b = number(1, 8); c = 0; break;
            case 3: a = number(0, 2); b = number(0, 4); c = 0; break;
            case BUY: a = number(0, 4); b = 0; c = 0; break;
            case 5: a = copy(); b = number(0, 3); c = next(2) == 0 ? number(-20, 20) : number(-3, 3); break;
            case 6: a = copy(); b = copy(); c = 0; break;
            case SEAT: b = number(0, 4); a = peopleFor(b); c = 0; break;
            case 8: a = group(); b = next(2) == 0 ? number(1, 2) : number(1, 7); c = 0; break;
            case GO: a = group(); b = 0; c = 0; break;
            case ADVANCE: a = next(3) == 0 ? number(1, 1000) : next(2) == 0 ? 1000 : number(1, 30); b = 0; c = 0; break;
            case 11: a = copy(); b = number(0, 5); c = 0; break;
            case 12: a = number(0, 5); b = number(0, 3); c = next(3) == 0 ? number(0, 20) : number(0, 4); break;
            case 15: a = copy(); b = number(0, 3); c = 0; break;
            case 16: case 17: a = copy(); b = 0; c = 0; break;
            case 18: a = number(0, 5); b = 0; c = 0; break;
            case 19: a = group(); b = 0; c = 0; break;
            case 20: a = number(0, 2); b = 0; c = 0; break;
            case 21: a = number(0, 4); b = 0; c = 0; break;
            case 22: a = number(1, 8); b = 0; c = 0; break;
            default: a = 0; b = 0; c = 0; break;
        }
        int d = kindOfCall == 0 ? number(1, 60) : kindOfCall == 1 ? number(0, c) : 0;
        long due = ofModel(kindOfCall, a, b, c, d, yes);
        long got;
        try {
            got = ofCafe(kindOfCall, a, b, c, d, yes);
        } catch (RuntimeException thrown) {
            got = written(thrown);
        }
        if (got != due) {
            call.setLength(0);
            call.append("walk ").append(walk).append(", step ").append(step).append(", call ").append(kindOfCall);
            call.append(": ").append(a).append(' ').append(b).append(' ').append(c).append(' ').append(d);
            call.append(' ').append(yes);
            Due.is(call.toString(), due, got);
        } else {
            Due.is("a call", due, got);
        }
    }

    private int peopleFor(int game) {
        boolean there = game >= 0 && game < 5;
        return there && next(4) != 0 ? number(model.players[game][0], model.players[game][1]) : number(1, 8);
    }

    /** By the very class: what the machine throws is of a class below, and counts as wrong. */
    private static long written(RuntimeException thrown) {
        if (thrown.getClass() == IndexOutOfBoundsException.class) {
            return Model.INDEX;
        }
        if (thrown.getClass() == IllegalArgumentException.class) {
            return Model.ARGUMENT;
        }
        return thrown.getClass() == IllegalStateException.class ? Model.STATE : Long.MIN_VALUE + 3;
    }

    private long ofCafe(int kindOfCall, int a, int b, int c, int d, boolean yes) {
        switch (kindOfCall) {
            case 0: cafe.setGame(a, b, c, d); return 0;
            case 1: cafe.setParts(a, b, c, d); return 0;
            case 2: return cafe.setSeats(a, b);
            case 3: return cafe.teach(a, b, yes) ? 1 : 0;
            case BUY: return cafe.buy(a);
            case 5: return cafe.count(a, b, c);
            case 6: return cafe.fill(a, b);
            case SEAT: return cafe.seat(a, b, yes);
            case 8: return cafe.grow(a, b);
            case GO: return cafe.go(a);
            case ADVANCE: return cafe.advance(a);
            case 11: return cafe.lend(a, b);
            case 12: return cafe.giveBack(a, b, c);
            case 13: return cafe.minute();
            case 14: return cafe.copies();
            case 15: return cafe.parts(a, b);
            case 16: return cafe.canBePlayed(a) ? 1 : 0;
            case 17: return cafe.whereIs(a);
            case 18: return cafe.at(a);
            case 19: return cafe.copyOf(a);
            case 20: return cafe.teaching(a);
            case 21: return cafe.plays(a);
            default: return cafe.propose(a);
        }
    }

    private long ofModel(int kindOfCall, int a, int b, int c, int d, boolean yes) {
        switch (kindOfCall) {
            case 0: return model.setGame(a, b, c, d);
            case 1: return model.setParts(a, b, c, d);
            case 2: return model.setSeats(a, b);
            case 3: return model.teach(a, b, yes);
            case BUY: return model.buy(a);
            case 5: return model.count(a, b, c);
            case 6: return model.fill(a, b);
            case SEAT: return model.seat(a, b, yes);
            case 8: return model.grow(a, b);
            case GO: return model.go(a);
            case ADVANCE: return model.advance(a);
            case 11: return model.lend(a, b);
            case 12: return model.giveBack(a, b, c);
            case 13: return model.minute;
            case 14: return model.copyGame.size();
            case 15: return model.parts(a, b);
            case 16: return model.canBePlayed(a);
            case 17: return model.whereIs(a);
            case 18: return model.at(a);
            case 19: return model.copyOf(a);
            case 20: return model.teaching(a);
            case 21: return model.plays(a);
            default: return model.propose(a);
        }
    }
}
