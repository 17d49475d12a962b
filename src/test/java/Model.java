import java.util.ArrayList;
import java.util.List;

/**
 * The document said a second time, for WalkTest, and in another way than the program says it: all
 * state lies open in flat rows, teaching is counted down, the deposit is kept, and every rule
 * first gathers all that could be had and then takes the best.
 */
final class Model {
    /** What a call answers that throws. */
    static final long INDEX = Long.MIN_VALUE;
    static final long ARGUMENT = Long.MIN_VALUE + 1;
    static final long STATE = Long.MIN_VALUE + 2;

    final int[][] players = {{2, 4}, {2, 4}, {2, 4}, {2, 4}, {2, 4}};
    final int[] lesson = {10, 10, 10, 10, 10};
    final int[][] whole = new int[5][4];
    final int[][] need = new int[5][4];
    final int[] plays = new int[5];
    final int[] seats = {2, 3, 4, 5, 6, 7};
    final boolean[][] ignorant = new boolean[3][5];
    final int[] teachingLeft = new int[3];
    final List<Integer> copyGame = new ArrayList<>();
    final int[][] has = new int[15][4];
    final int[] borrowerOf = new int[15];
    final int[] deposit = new int[6];
    /** Rows of people, table, copy, minute; the table is -1 when the group has gone. */
    final List<int[]> groups = new ArrayList<>();
    int minute = 0;

    Model() {
        for (int game = 0; game < 5; game++) {
            for (int kind = 0; kind < 4; kind++) {
                whole[game][kind] = 5;
                need[game][kind] = 4;
            }
        }
        for (int copy = 0; copy < 15; copy++) {
            borrowerOf[copy] = -1;
        }
    }

    private static boolean out(int value, int least, int most) {
        return !(least <= value && value <= most);
    }

    private boolean noCopy(int copy) {
        return out(copy, 0, copyGame.size() - 1);
    }

    private boolean noGroup(int group) {
        return out(group, 0, groups.size() - 1) || groups.get(group)[1] == -1;
    }

    private boolean playable(int copy) {
        int enough = 0;
        for (int kind = 0; kind < 4; kind++) {
            enough += has[copy][kind] >= need[copyGame.get(copy)][kind] ? 1 : 0;
        }
        return enough == 4;
    }

    long whereIs(int copy) {
        if (noCopy(copy)) return INDEX;
        for (int[] group : groups) {
            if (group[1] != -1 && group[2] == copy) return GameCafe.TABLE;
        }
        return borrowerOf[copy] >= 0 ? GameCafe.LENT : GameCafe.SHELF;
    }

    long at(int table) {
        if (out(table, 0, 5)) return INDEX;
        for (int group = 0; group < groups.size(); group++) {
            if (groups.get(group)[1] == table) return group;
        }
        return GameCafe.NONE;
    }

    private int tableFor(int people) {
        for (int enough = people; enough <= 8; enough++) {
            for (int table = 0; table < 6; table++) {
                if (seats[table] == enough && at(table) == GameCafe.NONE) return table;
            }
        }
        return -1;
    }

    private int copyFor(int game) {
        for (int copy = 0; copy < copyGame.size(); copy++) {
            if (copyGame.get(copy) == game && whereIs(copy) == GameCafe.SHELF && playable(copy)) return copy;
        }
        return -1;
    }

    private int teacherFor(int game) {
        for (int one = 0; one < 3; one++) {
            if (!ignorant[one][game] && teachingLeft[one] == 0) return one;
        }
        return -1;
    }

    long setGame(int game, int least, int most, int minutes) {
        if (out(game, 0, 4)) return INDEX;
        if (out(least, 1, 8) || out(most, least, 8) || out(minutes, 1, 60)) return ARGUMENT;
        players[game] = new int[] {least, most};
        lesson[game] = minutes;
        return 0;
    }

    long setParts(int game, int kind, int parts, int needed) {
        if (out(game, 0, 4) || out(kind, 0, 3)) return INDEX;
        if (out(parts, 0, 20) || out(needed, 0, parts)) return ARGUMENT;
        whole[game][kind] = parts;
        need[game][kind] = needed;
        return 0;
    }

    long setSeats(int table, int number) {
        if (out(table, 0, 5)) return INDEX;
        if (out(number, 1, 8)) return ARGUMENT;
        if (at(table) != GameCafe.NONE) return STATE;
        int before = seats[table];
        seats[table] = number;
        return before;
    }

    long teach(int one, int game, boolean knows) {
        if (out(one, 0, 2) || out(game, 0, 4)) return INDEX;
        long before = ignorant[one][game] ? 0 : 1;
        ignorant[one][game] = !knows;
        return before;
    }

    long buy(int game) {
        if (out(game, 0, 4)) return INDEX;
        if (copyGame.size() == 15) return STATE;
        for (int kind = 0; kind < 4; kind++) {
            has[copyGame.size()][kind] = whole[game][kind];
        }
        copyGame.add(game);
        return copyGame.size() - 1;
    }

    long count(int copy, int kind, int change) {
        if (noCopy(copy) || out(kind, 0, 3)) return INDEX;
        if (out(change, -20, 20)) return ARGUMENT;
        if (whereIs(copy) == GameCafe.LENT || out(has[copy][kind] + change, 0, 40)) return STATE;
        has[copy][kind] += change;
        return has[copy][kind];
    }

    long fill(int copy, int from) {
        if (noCopy(copy) || noCopy(from)) return INDEX;
        if (copy == from || (int) copyGame.get(copy) != (int) copyGame.get(from)) return ARGUMENT;
        if (whereIs(copy) != GameCafe.SHELF || whereIs(from) != GameCafe.SHELF) return STATE;
        int moved = 0;
        for (int kind = 0; kind < 4; kind++) {
            while (has[copy][kind] < whole[copyGame.get(copy)][kind] && has[from][kind] > 0) {
                has[copy][kind]++;
                has[from][kind]--;
                moved++;
            }
        }
        return moved;
    }

    long seat(int people, int game, boolean knows) {
        if (out(game, 0, 4)) return INDEX;
        if (out(people, 1, 8) || out(people, players[game][0], players[game][1])) return ARGUMENT;
        int table = tableFor(people);
        int copy = copyFor(game);
        int teacher = teacherFor(game);
        if (groups.size() == 60 || table < 0 || copy < 0) return STATE;
        if (!knows) {
            if (teacher < 0) return STATE;
            teachingLeft[teacher] = lesson[game];
        }
        groups.add(new int[] {people, table, copy, minute});
        return groups.size() - 1;
    }

    long grow(int group, int more) {
        if (noGroup(group)) return INDEX;
        if (out(more, 1, 7)) return ARGUMENT;
        int[] growing = groups.get(group);
        int people = growing[0] + more;
        if (people > players[copyGame.get(growing[2])][1]) return STATE;
        if (seats[growing[1]] < people) {
            int table = tableFor(people);
            if (table < 0) return STATE;
            growing[1] = table;
        }
        growing[0] = people;
        return growing[1];
    }

    long go(int group) {
        if (noGroup(group)) return INDEX;
        int[] going = groups.get(group);
        going[1] = -1;
        plays[copyGame.get(going[2])]++;
        return minute - going[3];
    }

    long advance(int minutes) {
        if (out(minutes, 1, 1000)) return ARGUMENT;
        if (minute + minutes > 100000) return STATE;
        minute += minutes;
        for (int one = 0; one < 3; one++) {
            teachingLeft[one] = Math.max(0, teachingLeft[one] - minutes);
        }
        return minute;
    }

    private int copyWith(int borrower) {
        for (int copy = 0; copy < 15; copy++) {
            if (borrowerOf[copy] == borrower) return copy;
        }
        return -1;
    }

    long lend(int copy, int borrower) {
        if (noCopy(copy) || out(borrower, 0, 5)) return INDEX;
        if (whereIs(copy) != GameCafe.SHELF || copyWith(borrower) >= 0) return STATE;
        borrowerOf[copy] = borrower;
        int[] parts = has[copy];
        deposit[borrower] = parts[0] * 100 + parts[1] * 200 + parts[2] * 300 + parts[3] * 400;
        return deposit[borrower];
    }

    long giveBack(int borrower, int kind, int missing) {
        if (out(borrower, 0, 5) || out(kind, 0, 3)) return INDEX;
        if (out(missing, 0, 20)) return ARGUMENT;
        int copy = copyWith(borrower);
        if (copy < 0 || has[copy][kind] < missing) return STATE;
        has[copy][kind] -= missing;
        borrowerOf[copy] = -1;
        return deposit[borrower] - 100 * (kind + 1) * missing;
    }

    long parts(int copy, int kind) {
        return noCopy(copy) || out(kind, 0, 3) ? INDEX : has[copy][kind];
    }

    long canBePlayed(int copy) {
        return noCopy(copy) ? INDEX : playable(copy) ? 1 : 0;
    }

    long copyOf(int group) {
        return noGroup(group) ? INDEX : groups.get(group)[2];
    }

    long teaching(int one) {
        return out(one, 0, 2) ? INDEX : teachingLeft[one];
    }

    long plays(int game) {
        return out(game, 0, 4) ? INDEX : plays[game];
    }

    long propose(int people) {
        if (out(people, 1, 8)) return ARGUMENT;
        int best = GameCafe.NONE;
        for (int game = 4; game >= 0; game--) {
            boolean could = groups.size() < 60 && !out(people, players[game][0], players[game][1])
                    && tableFor(people) >= 0 && copyFor(game) >= 0;
            if (could && (best == GameCafe.NONE || plays[game] >= plays[best])) best = game;
        }
        return best;
    }
}
