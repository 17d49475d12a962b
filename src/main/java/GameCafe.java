/**
 * A cafe of games: its copies and their parts, its tables and the groups at them, the staff who
 * teach, the copies that are lent, and how often each game was played.
 *
 * <p>Every method looks at all its arguments, and at all that can be refused, before its first
 * change: so a call that throws changes nothing.
 */
public final class GameCafe {
    public static final int NONE = -1;
    public static final int SHELF = 0, TABLE = 1, LENT = 2;

    private static final int GAMES = 5;
    private static final int KINDS = 4;
    private static final int TABLES = 6;
    private static final int STAFF = 3;
    private static final int BORROWERS = 6;
    private static final int COPIES = 15;
    private static final int GROUPS = 60;

    private static final int MOST_PEOPLE = 8;
    private static final int MOST_SEATS = 8;
    private static final int MOST_LESSON = 60;
    private static final int MOST_WHOLE = 20;
    private static final int MOST_CHANGE = 20;
    private static final int MOST_PARTS = 40;
    private static final int MOST_MISSING = 20;
    private static final int MOST_ADVANCE = 1000;
    private static final int LAST_MINUTE = 100000;

    private static final class Game {
        int least = 2;
        int most = 4;
        int lesson = 10;
        int timesPlayed = 0;
        final int[] whole = {5, 5, 5, 5};
        final int[] need = {4, 4, 4, 4};

        boolean isFor(int people) {
            return least <= people && people <= most;
        }
    }

    private static final class Copy {
        final int number;
        final Game game;
        final int[] has;
        int place = SHELF;

        Copy(int number, Game game) {
            this.number = number;
            this.game = game;
            this.has = game.whole.clone();
        }

        boolean isPlayable() {
            for (int kind = 0; kind < KINDS; kind++) {
                if (has[kind] < game.need[kind]) {
                    return false;
                }
            }
            return true;
        }

        int worth() {
            int sum = 0;
            for (int kind = 0; kind < KINDS; kind++) {
                sum += has[kind] * worthOfPart(kind);
            }
            return sum;
        }

        int fillFrom(Copy other) {
            int moved = 0;
            for (int kind = 0; kind < KINDS; kind++) {
                // A copy can have more than a whole one: it lacks nothing then, and gives nothing back.
                int lacking = Math.max(0, game.whole[kind] - has[kind]);
                int coming = Math.min(lacking, other.has[kind]);
                has[kind] += coming;
                other.has[kind] -= coming;
                moved += coming;
            }
            return moved;
        }
    }

    private static final class Table {
        final int number;
        int seats;
        int group = NONE;

        Table(int number, int seats) {
            this.number = number;
            this.seats = seats;
        }
    }

    private static final class Teacher {
        final boolean[] knows = {true, true, true, true, true};
        int busyUntil = 0;
    }

    private static final class Group {
        final Copy copy;
        final int since;
        int people;
        Table table;

        Group(int people, Table table, Copy copy, int since) {
            this.people = people;
            this.table = table;
            this.copy = copy;
            this.since = since;
        }
    }

    private final Game[] games = new Game[GAMES];
    private final Table[] tables = new Table[TABLES];
    private final Teacher[] staff = new Teacher[STAFF];
    /** null where none is bought yet. */
    private final Copy[] owned = new Copy[COPIES];
    /** null where none is seated yet, and where the group has gone. */
    private final Group[] groups = new Group[GROUPS];
    /** null where a borrower has none. */
    private final Copy[] borrowed = new Copy[BORROWERS];
    private int bought = 0;
    private int seated = 0;
    private int now = 0;

    public GameCafe() {
        for (int game = 0; game < GAMES; game++) {
            games[game] = new Game();
        }
        for (int table = 0; table < TABLES; table++) {
            tables[table] = new Table(table, table + 2);
        }
        for (int one = 0; one < STAFF; one++) {
            staff[one] = new Teacher();
        }
    }

    // ---- games, tables, staff

    public void setGame(int game, int least, int most, int minutes)
            throws IndexOutOfBoundsException, IllegalArgumentException {
        checkNumber(game, GAMES);
        checkRange(least, 1, MOST_PEOPLE);
        checkRange(most, least, MOST_PEOPLE);
        checkRange(minutes, 1, MOST_LESSON);
        Game set = games[game];
        set.least = least;
        set.most = most;
        set.lesson = minutes;
    }

    public void setParts(int game, int kind, int whole, int need)
            throws IndexOutOfBoundsException, IllegalArgumentException {
        checkNumber(game, GAMES);
        checkNumber(kind, KINDS);
        checkRange(whole, 0, MOST_WHOLE);
        checkRange(need, 0, whole);
        Game set = games[game];
        set.whole[kind] = whole;
        set.need[kind] = need;
    }

    public int setSeats(int table, int seats)
            throws IndexOutOfBoundsException, IllegalArgumentException, IllegalStateException {
        checkNumber(table, TABLES);
        checkRange(seats, 1, MOST_SEATS);
        Table set = tables[table];
        if (set.group != NONE) {
            throw new IllegalStateException("a group is at the table");
        }
        int before = set.seats;
        set.seats = seats;
        return before;
    }

    public boolean teach(int one, int game, boolean knows) throws IndexOutOfBoundsException {
        checkNumber(one, STAFF);
        checkNumber(game, GAMES);
        Teacher teacher = staff[one];
        boolean before = teacher.knows[game];
        teacher.knows[game] = knows;
        return before;
    }

    // ---- copies

    public int buy(int game) throws IndexOutOfBoundsException, IllegalStateException {
        checkNumber(game, GAMES);
        if (bought >= COPIES) {
            throw new IllegalStateException("there can be no more copies");
        }
        int number = bought;
        owned[number] = new Copy(number, games[game]);
        bought = number + 1;
        return number;
    }

    public int count(int copy, int kind, int change)
            throws IndexOutOfBoundsException, IllegalArgumentException, IllegalStateException {
        Copy counted = copyNumbered(copy);
        checkNumber(kind, KINDS);
        checkRange(change, -MOST_CHANGE, MOST_CHANGE);
        int then = counted.has[kind] + change;
        if (counted.place == LENT || then < 0 || then > MOST_PARTS) {
            throw new IllegalStateException("the parts of the copy cannot change so");
        }
        counted.has[kind] = then;
        return then;
    }

    public int fill(int copy, int from)
            throws IndexOutOfBoundsException, IllegalArgumentException, IllegalStateException {
        Copy filled = copyNumbered(copy);
        Copy giving = copyNumbered(from);
        if (copy == from || filled.game != giving.game) {
            throw new IllegalArgumentException("a copy is filled from another one of its game");
        }
        if (filled.place != SHELF || giving.place != SHELF) {
            throw new IllegalStateException("a copy is not on the shelf");
        }
        return filled.fillFrom(giving);
    }

    // ---- groups

    public int seat(int people, int game, boolean knows)
            throws IndexOutOfBoundsException, IllegalArgumentException, IllegalStateException {
        checkNumber(game, GAMES);
        checkRange(people, 1, MOST_PEOPLE);
        Game played = games[game];
        if (!played.isFor(people)) {
            throw new IllegalArgumentException("the game is not for so many people");
        }
        Table table = freeTableFor(people);
        Copy copy = playableCopyOf(played);
        Teacher teacher = knows ? null : freeTeacherOf(game);
        if (seated >= GROUPS || table == null || copy == null || (!knows && teacher == null)) {
            throw new IllegalStateException("the group cannot be seated");
        }
        if (teacher != null) {
            teacher.busyUntil = now + played.lesson;
        }
        int number = seated;
        groups[number] = new Group(people, table, copy, now);
        seated = number + 1;
        table.group = number;
        copy.place = TABLE;
        return number;
    }

    public int grow(int group, int more)
            throws IndexOutOfBoundsException, IllegalArgumentException, IllegalStateException {
        Group growing = groupNumbered(group);
        checkRange(more, 1, MOST_PEOPLE - 1);
        int people = growing.people + more;
        if (people > growing.copy.game.most) {
            throw new IllegalStateException("the game is not for so many people");
        }
        Table table = people <= growing.table.seats ? growing.table : freeTableFor(people);
        if (table == null) {
            throw new IllegalStateException("no table can be had");
        }
        growing.table.group = NONE;
        table.group = group;
        growing.table = table;
        growing.people = people;
        return table.number;
    }

    public int go(int group) throws IndexOutOfBoundsException {
        Group going = groupNumbered(group);
        going.table.group = NONE;
        going.copy.place = SHELF;
        going.copy.game.timesPlayed++;
        groups[group] = null;
        return now - going.since;
    }

    public int advance(int minutes) throws IllegalArgumentException, IllegalStateException {
        checkRange(minutes, 1, MOST_ADVANCE);
        if (now + minutes > LAST_MINUTE) {
            throw new IllegalStateException("the minute would be above the last one");
        }
        now += minutes;
        return now;
    }

    // ---- lending

    public int lend(int copy, int borrower)
            throws IndexOutOfBoundsException, IllegalStateException {
        Copy lent = copyNumbered(copy);
        checkNumber(borrower, BORROWERS);
        if (lent.place != SHELF || borrowed[borrower] != null) {
            throw new IllegalStateException("the copy cannot be lent to the borrower");
        }
        lent.place = LENT;
        borrowed[borrower] = lent;
        return lent.worth();
    }

    public int giveBack(int borrower, int kind, int missing)
            throws IndexOutOfBoundsException, IllegalArgumentException, IllegalStateException {
        checkNumber(borrower, BORROWERS);
        checkNumber(kind, KINDS);
        checkRange(missing, 0, MOST_MISSING);
        Copy back = borrowed[borrower];
        if (back == null || back.has[kind] < missing) {
            throw new IllegalStateException("there is no such copy to come back");
        }
        // No call changes the parts of a copy that is LENT: it is still worth its deposit.
        int deposit = back.worth();
        back.has[kind] -= missing;
        back.place = SHELF;
        borrowed[borrower] = null;
        return deposit - missing * worthOfPart(kind);
    }

    // ---- what there is

    public int minute() {
        return now;
    }

    public int copies() {
        return bought;
    }

    public int parts(int copy, int kind) throws IndexOutOfBoundsException {
        Copy asked = copyNumbered(copy);
        checkNumber(kind, KINDS);
        return asked.has[kind];
    }

    public boolean canBePlayed(int copy) throws IndexOutOfBoundsException {
        return copyNumbered(copy).isPlayable();
    }

    public int whereIs(int copy) throws IndexOutOfBoundsException {
        return copyNumbered(copy).place;
    }

    public int at(int table) throws IndexOutOfBoundsException {
        checkNumber(table, TABLES);
        return tables[table].group;
    }

    public int copyOf(int group) throws IndexOutOfBoundsException {
        return groupNumbered(group).copy.number;
    }

    public int teaching(int one) throws IndexOutOfBoundsException {
        checkNumber(one, STAFF);
        return Math.max(0, staff[one].busyUntil - now);
    }

    public int plays(int game) throws IndexOutOfBoundsException {
        checkNumber(game, GAMES);
        return games[game].timesPlayed;
    }

    public int propose(int people) throws IllegalArgumentException {
        checkRange(people, 1, MOST_PEOPLE);
        int proposed = NONE;
        int mostPlays = -1;
        for (int game = 0; game < GAMES; game++) {
            if (games[game].timesPlayed > mostPlays && canSeatKnowing(people, games[game])) {
                proposed = game;
                mostPlays = games[game].timesPlayed;
            }
        }
        return proposed;
    }

    // ---- what the calls share

    private boolean canSeatKnowing(int people, Game game) {
        return seated < GROUPS
                && game.isFor(people)
                && freeTableFor(people) != null
                && playableCopyOf(game) != null;
    }

    private Table freeTableFor(int people) {
        Table best = null;
        for (Table table : tables) {
            boolean fits = table.group == NONE && table.seats >= people;
            if (fits && (best == null || table.seats < best.seats)) {
                best = table;
            }
        }
        return best;
    }

    private Copy playableCopyOf(Game game) {
        for (Copy copy : owned) {
            if (copy != null && copy.game == game && copy.place == SHELF && copy.isPlayable()) {
                return copy;
            }
        }
        return null;
    }

    private Teacher freeTeacherOf(int game) {
        for (Teacher teacher : staff) {
            if (teacher.knows[game] && teacher.busyUntil <= now) {
                return teacher;
            }
        }
        return null;
    }

    private Copy copyNumbered(int number) {
        if (number < 0 || number >= COPIES || owned[number] == null) {
            throw new IndexOutOfBoundsException("there is no such copy");
        }
        return owned[number];
    }

    private Group groupNumbered(int number) {
        if (number < 0 || number >= GROUPS || groups[number] == null) {
            throw new IndexOutOfBoundsException("there is no such group");
        }
        return groups[number];
    }

    private static int worthOfPart(int kind) {
        return 100 * (kind + 1);
    }

    private static void checkNumber(int number, int bound) {
        if (number < 0 || number >= bound) {
            throw new IndexOutOfBoundsException("there is no such number");
        }
    }

    private static void checkRange(int value, int least, int most) {
        if (value < least || value > most) {
            throw new IllegalArgumentException("an argument is out of range");
        }
    }
}
