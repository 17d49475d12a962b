/** Promises 9 to 12, 15 and 20 to 23: seat, grow, go, advance, minute, at, copyOf, teaching, plays. */
public final class GroupsTest {
    public static void main(String[] args) {
        promise9FewestSeatsThatAreEnough();
        promise9LowestOfSeveralTables();
        promise9NoTable();
        promise9LowestCopyThatCanBePlayed();
        promise9NoCopy();
        promise9LowestTeacher();
        promise9NoTeacher();
        promise9SixtyGroups();
        promise9Refusals();
        promise10StaysOrMoves();
        promise10LowestOfSeveralTables();
        promise10OwnTableIsFreeForOthers();
        promise10WhatItsGameIsForThen();
        promise10Refusals();
        promise11MinutesAndPlays();
        promise11TeachingGoesOn();
        promise11Refusals();
        promise12And15Minutes();
        promise12LastMinute();
        promise20Refusals();
        promise21CopyOf();
        promise22Teaching();
        promise23Plays();
        Due.end();
    }

    private static GameCafe withCopies(int game, int copies) {
        GameCafe cafe = new GameCafe();
        cafe.setGame(game, 1, 8, 10);
        for (int copy = 0; copy < copies; copy++) {
            cafe.buy(game);
        }
        return cafe;
    }

    private static void promise9FewestSeatsThatAreEnough() {
        GameCafe cafe = withCopies(0, 6);
        Due.is("seat 4", 0, cafe.seat(4, 0, true));
        Due.is("table with 4 seats", 0, cafe.at(2));
        Due.is("seat 4 again", 1, cafe.seat(4, 0, true));
        Due.is("table with 5 seats", 1, cafe.at(3));
        Due.is("seat 1", 2, cafe.seat(1, 0, true));
        Due.is("table with 2 seats", 2, cafe.at(0));
        Due.is("seat 7", 3, cafe.seat(7, 0, true));
        Due.is("table with 7 seats", 3, cafe.at(5));
        Due.is("free", GameCafe.NONE, cafe.at(1));
        Due.is("free too", GameCafe.NONE, cafe.at(4));
    }

    private static void promise9LowestOfSeveralTables() {
        GameCafe cafe = withCopies(0, 6);
        for (int table = 0; table < 6; table++) {
            cafe.setSeats(table, 6);
        }
        cafe.setSeats(3, 5);
        cafe.seat(3, 0, true);
        Due.is("fewer seats first", 0, cafe.at(3));
        cafe.seat(3, 0, true);
        Due.is("then the lowest", 1, cafe.at(0));
        cafe.seat(3, 0, true);
        Due.is("then the next", 2, cafe.at(1));
        cafe.go(1);
        cafe.seat(3, 0, true);
        Due.is("the lowest again", 3, cafe.at(0));
    }

    private static void promise9NoTable() {
        GameCafe cafe = withCopies(0, 10);
        Due.refuses("8 people, 7 seats", Due.STATE, () -> cafe.seat(8, 0, true));
        Due.refuses("8 people, 7 seats, to be taught", Due.STATE, () -> cafe.seat(8, 0, false));
        Due.is("nobody teaches", 0, cafe.teaching(0));
        Due.is("the copy is on the shelf", GameCafe.SHELF, cafe.whereIs(0));
        for (int group = 0; group < 6; group++) {
            Due.is("seat", group, cafe.seat(1, 0, true));
        }
        Due.refuses("no table is free", Due.STATE, () -> cafe.seat(1, 0, true));
        cafe.go(4);
        Due.is("numbers go on", 6, cafe.seat(1, 0, true));
        Due.is("at the freed table", 6, cafe.at(4));
    }

    private static void promise9LowestCopyThatCanBePlayed() {
        GameCafe cafe = withCopies(1, 5);
        cafe.buy(0);
        cafe.count(0, 0, -2);
        cafe.lend(1, 0);
        cafe.count(2, 3, -1);
        Due.is("seat", 0, cafe.seat(2, 1, true));
        Due.is("copy 2 has what it needs", 2, cafe.copyOf(0));
        Due.is("seat", 1, cafe.seat(2, 1, true));
        Due.is("copy 3 is next", 3, cafe.copyOf(1));
        cafe.giveBack(0, 0, 0);
        Due.is("seat", 2, cafe.seat(2, 1, true));
        Due.is("copy 1 is back", 1, cafe.copyOf(2));
        Due.is("seat at game 0", 3, cafe.seat(2, 0, true));
        Due.is("its copy", 5, cafe.copyOf(3));
    }

    private static void promise9NoCopy() {
        GameCafe cafe = new GameCafe();
        Due.refuses("none bought", Due.STATE, () -> cafe.seat(2, 0, true));
        cafe.buy(1);
        Due.refuses("none of the game", Due.STATE, () -> cafe.seat(2, 0, true));
        cafe.buy(0);
        cafe.lend(1, 1);
        Due.refuses("lent", Due.STATE, () -> cafe.seat(2, 0, true));
        cafe.giveBack(1, 2, 2);
        Due.refuses("cannot be played", Due.STATE, () -> cafe.seat(2, 0, true));
        Due.refuses("cannot be played, to be taught", Due.STATE, () -> cafe.seat(2, 0, false));
        Due.is("nobody teaches", 0, cafe.teaching(0));
        Due.is("table 0 is free", GameCafe.NONE, cafe.at(0));
        cafe.count(1, 2, 1);
        Due.is("can be played", 0, cafe.seat(2, 0, true));
        Due.refuses("at a table", Due.STATE, () -> cafe.seat(2, 0, true));
    }

    private static void promise9LowestTeacher() {
        GameCafe cafe = withCopies(0, 6);
        cafe.setGame(0, 1, 8, 30);
        cafe.teach(0, 0, false);
        cafe.seat(2, 0, true);
        Due.is("nobody for those who know", 0, cafe.teaching(1));
        cafe.seat(2, 0, false);
        Due.is("0 does not know it", 0, cafe.teaching(0));
        Due.is("1 teaches", 30, cafe.teaching(1));
        cafe.advance(5);
        cafe.seat(2, 0, false);
        Due.is("1 teaches on", 25, cafe.teaching(1));
        Due.is("2 teaches", 30, cafe.teaching(2));
        cafe.teach(0, 0, true);
        cafe.advance(25);
        Due.is("1 is ready", 0, cafe.teaching(1));
        cafe.seat(2, 0, false);
        Due.is("0 is the lowest", 30, cafe.teaching(0));
        cafe.seat(2, 0, false);
        Due.is("1 is next, at the very end of its teaching", 30, cafe.teaching(1));
    }

    private static void promise9NoTeacher() {
        GameCafe cafe = withCopies(0, 5);
        cafe.teach(0, 0, false);
        cafe.teach(1, 0, false);
        cafe.seat(2, 0, false);
        Due.is("2 teaches", 10, cafe.teaching(2));
        Due.refuses("2 is teaching", Due.STATE, () -> cafe.seat(2, 0, false));
        cafe.advance(9);
        Due.refuses("still", Due.STATE, () -> cafe.seat(2, 0, false));
        Due.is("copy 1 is on the shelf", GameCafe.SHELF, cafe.whereIs(1));
        Due.is("table 1 is free", GameCafe.NONE, cafe.at(1));
        Due.is("those who know are seated", 1, cafe.seat(2, 0, true));
        cafe.advance(1);
        Due.is("2 is ready", 2, cafe.seat(2, 0, false));
        cafe.advance(10);
        cafe.teach(2, 0, false);
        Due.refuses("nobody knows it", Due.STATE, () -> cafe.seat(2, 0, false));
    }

    private static void promise9SixtyGroups() {
        GameCafe cafe = withCopies(0, 1);
        for (int group = 0; group < 60; group++) {
            Due.is("seat", group, cafe.seat(2, 0, true));
            if (group < 59) {
                cafe.go(group);
            }
        }
        Due.is("copyOf(59)", 0, cafe.copyOf(59));
        cafe.go(59);
        Due.refuses("the sixty-first", Due.STATE, () -> cafe.seat(2, 0, true));
        Due.refuses("the sixty-first, to be taught", Due.STATE, () -> cafe.seat(2, 0, false));
        Due.refuses("the sixty-first, of no people", Due.ARGUMENT, () -> cafe.seat(0, 0, true));
        Due.refuses("the sixty-first, for no game", Due.INDEX, () -> cafe.seat(2, 5, true));
        Due.is("nobody teaches", 0, cafe.teaching(0));
        Due.is("the copy is on the shelf", GameCafe.SHELF, cafe.whereIs(0));
        Due.is("plays(0)", 60, cafe.plays(0));
        Due.refuses("copyOf(60)", Due.INDEX, () -> cafe.copyOf(60));
        Due.refuses("go(60)", Due.INDEX, () -> cafe.go(60));
        Due.refuses("grow(60, 1)", Due.INDEX, () -> cafe.grow(60, 1));
    }

    private static void promise9Refusals() {
        GameCafe cafe = new GameCafe();
        Due.refuses("game -1", Due.INDEX, () -> cafe.seat(2, -1, true));
        Due.refuses("game 5, people 0", Due.INDEX, () -> cafe.seat(0, 5, true));
        Due.refuses("people 0", Due.ARGUMENT, () -> cafe.seat(0, 0, true));
        Due.refuses("people 9", Due.ARGUMENT, () -> cafe.seat(9, 0, true));
        Due.refuses("people 1, no copy", Due.ARGUMENT, () -> cafe.seat(1, 0, true));
        Due.refuses("people 5, no copy", Due.ARGUMENT, () -> cafe.seat(5, 0, false));
        cafe.buy(0);
        Due.is("the first group", 0, cafe.seat(2, 0, true));
    }

    private static void promise10StaysOrMoves() {
        GameCafe cafe = withCopies(0, 6);
        cafe.setSeats(0, 3);
        cafe.setSeats(1, 6);
        cafe.seat(1, 0, true);
        Due.is("stays", 0, cafe.grow(0, 2));
        Due.is("at(0)", 0, cafe.at(0));
        Due.is("moves to 4 seats", 2, cafe.grow(0, 1));
        Due.is("left", GameCafe.NONE, cafe.at(0));
        Due.is("at(2)", 0, cafe.at(2));
        cafe.seat(5, 0, true);
        Due.is("the table with 5 seats is taken: moves to 6", 1, cafe.grow(0, 1));
        Due.is("at(1)", 0, cafe.at(1));
        Due.is("moves to 7", 5, cafe.grow(0, 2));
        Due.is("its copy", 0, cafe.copyOf(0));
    }

    private static void promise10LowestOfSeveralTables() {
        GameCafe cafe = withCopies(0, 6);
        cafe.seat(2, 0, true);
        cafe.setSeats(1, 8);
        cafe.setSeats(2, 6);
        cafe.setSeats(3, 7);
        Due.is("6 seats, the lowest", 2, cafe.grow(0, 3));
        Due.is("stays though a lower one is free", 2, cafe.grow(0, 1));
        Due.is("7 seats, the lowest", 3, cafe.grow(0, 1));
        Due.is("8 seats", 1, cafe.grow(0, 1));
    }

    private static void promise10OwnTableIsFreeForOthers() {
        GameCafe cafe = withCopies(0, 6);
        cafe.seat(2, 0, true);
        cafe.grow(0, 1);
        Due.is("another group", 1, cafe.seat(2, 0, true));
        Due.is("at the table that was left", 1, cafe.at(0));
        Due.is("at the table that was taken", 0, cafe.at(1));
        cafe.go(0);
        Due.is("the new one is free", GameCafe.NONE, cafe.at(1));
        Due.is("the old one is not", 1, cafe.at(0));
        Due.is("the old one's group moves", 1, cafe.grow(1, 1));
        Due.is("seats can be set again", 2, cafe.setSeats(0, 5));
    }

    private static void promise10WhatItsGameIsForThen() {
        GameCafe cafe = new GameCafe();
        cafe.buy(0);
        cafe.seat(2, 0, true);
        Due.refuses("5 of 4", Due.STATE, () -> cafe.grow(0, 3));
        Due.is("2 people still", 0, cafe.at(0));
        cafe.setGame(0, 2, 3, 10);
        Due.refuses("4 of 3", Due.STATE, () -> cafe.grow(0, 2));
        cafe.setGame(0, 7, 8, 10);
        Due.is("fewer than it is for", 3, cafe.grow(0, 3));
        Due.is("8 people at 8 seats", 7, cafe.setSeats(5, 8));
        Due.is("moves", 5, cafe.grow(0, 3));
        Due.refuses("9 of 8", Due.STATE, () -> cafe.grow(0, 1));
        cafe.setGame(0, 1, 1, 10);
        Due.refuses("9 of 1", Due.STATE, () -> cafe.grow(0, 1));
        Due.is("it is there still", 0, cafe.at(5));
    }

    private static void promise10Refusals() {
        GameCafe cafe = withCopies(0, 3);
        Due.refuses("no group", Due.INDEX, () -> cafe.grow(0, 1));
        cafe.seat(2, 0, true);
        cafe.seat(7, 0, true);
        Due.refuses("group -1", Due.INDEX, () -> cafe.grow(-1, 1));
        Due.refuses("group 2, more 0", Due.INDEX, () -> cafe.grow(2, 0));
        Due.refuses("more 0", Due.ARGUMENT, () -> cafe.grow(0, 0));
        Due.refuses("more -1", Due.ARGUMENT, () -> cafe.grow(0, -1));
        Due.refuses("more 8, which are too many too", Due.ARGUMENT, () -> cafe.grow(0, 8));
        Due.refuses("more 7, which are too many", Due.STATE, () -> cafe.grow(0, 7));
        Due.refuses("8 people, no such table", Due.STATE, () -> cafe.grow(0, 6));
        Due.refuses("7 people, the table is taken", Due.STATE, () -> cafe.grow(0, 5));
        Due.is("at(0)", 0, cafe.at(0));
        Due.is("2 people still: 6 have a table", 4, cafe.grow(0, 4));
        cafe.go(0);
        Due.refuses("gone", Due.INDEX, () -> cafe.grow(0, 1));
        Due.refuses("gone, more 8", Due.INDEX, () -> cafe.grow(0, 8));
        GameCafe other = withCopies(0, 1);
        other.setSeats(5, 8);
        other.seat(1, 0, true);
        Due.is("more 7", 5, other.grow(0, 7));
    }

    private static void promise11MinutesAndPlays() {
        GameCafe cafe = withCopies(3, 2);
        cafe.advance(100);
        cafe.seat(2, 3, true);
        cafe.advance(20);
        cafe.seat(2, 3, true);
        cafe.advance(5);
        Due.is("no play before it goes", 0, cafe.plays(3));
        Due.is("go(0)", 25, cafe.go(0));
        Due.is("a play", 1, cafe.plays(3));
        Due.is("the table is free", GameCafe.NONE, cafe.at(0));
        Due.is("the copy is on the shelf", GameCafe.SHELF, cafe.whereIs(0));
        Due.is("the other one stays", 1, cafe.at(1));
        Due.is("with its copy", GameCafe.TABLE, cafe.whereIs(1));
        Due.is("go(1)", 5, cafe.go(1));
        cafe.seat(2, 3, true);
        Due.is("gone at once", 0, cafe.go(2));
        Due.is("plays(3)", 3, cafe.plays(3));
        cafe.seat(2, 3, true);
        cafe.advance(3);
        cafe.grow(3, 4);
        cafe.advance(4);
        Due.is("from when it was seated", 7, cafe.go(3));
    }

    private static void promise11TeachingGoesOn() {
        GameCafe cafe = withCopies(0, 2);
        cafe.seat(2, 0, false);
        cafe.advance(4);
        cafe.go(0);
        Due.is("teaches on", 6, cafe.teaching(0));
        cafe.seat(2, 0, false);
        Due.is("so another one teaches", 10, cafe.teaching(1));
        cafe.advance(6);
        Due.is("to its end", 0, cafe.teaching(0));
    }

    private static void promise11Refusals() {
        GameCafe cafe = withCopies(0, 2);
        for (int group : new int[] {Integer.MIN_VALUE, -1, 0, 1, 59, 60, Integer.MAX_VALUE}) {
            Due.refuses("go(" + group + ")", Due.INDEX, () -> cafe.go(group));
        }
        cafe.seat(2, 0, true);
        cafe.go(0);
        Due.refuses("gone", Due.INDEX, () -> cafe.go(0));
        Due.is("one play", 1, cafe.plays(0));
        cafe.seat(2, 0, true);
        Due.refuses("gone still", Due.INDEX, () -> cafe.go(0));
        Due.is("the next one is there", 1, cafe.at(0));
    }

    private static void promise12And15Minutes() {
        GameCafe cafe = new GameCafe();
        Due.is("minute()", 0, cafe.minute());
        Due.is("advance(1)", 1, cafe.advance(1));
        Due.is("advance(1000)", 1001, cafe.advance(1000));
        Due.is("minute()", 1001, cafe.minute());
        Due.refuses("advance(0)", Due.ARGUMENT, () -> cafe.advance(0));
        Due.refuses("advance(-1)", Due.ARGUMENT, () -> cafe.advance(-1));
        Due.refuses("advance(1001)", Due.ARGUMENT, () -> cafe.advance(1001));
        Due.refuses("advance(far)", Due.ARGUMENT, () -> cafe.advance(Integer.MAX_VALUE));
        Due.is("minute() still", 1001, cafe.minute());
    }

    private static void promise12LastMinute() {
        GameCafe cafe = withCopies(0, 1);
        cafe.seat(2, 0, true);
        for (int step = 0; step < 99; step++) {
            cafe.advance(1000);
        }
        cafe.advance(999);
        Due.refuses("to 100001", Due.STATE, () -> cafe.advance(2));
        Due.is("minute()", 99999, cafe.minute());
        Due.is("to 100000", 100000, cafe.advance(1));
        Due.refuses("behind it", Due.STATE, () -> cafe.advance(1));
        Due.refuses("out of range behind it", Due.ARGUMENT, () -> cafe.advance(1001));
        Due.is("minute() at last", 100000, cafe.minute());
        Due.is("there all the time", 100000, cafe.go(0));
        cafe.seat(2, 0, false);
        Due.is("a teaching at the end", 10, cafe.teaching(0));
    }

    private static void promise20Refusals() {
        GameCafe cafe = withCopies(0, 1);
        Due.is("at(5)", GameCafe.NONE, cafe.at(5));
        Due.refuses("at(-1)", Due.INDEX, () -> cafe.at(-1));
        Due.refuses("at(6)", Due.INDEX, () -> cafe.at(6));
    }

    private static void promise21CopyOf() {
        GameCafe cafe = withCopies(0, 2);
        Due.refuses("copyOf(0)", Due.INDEX, () -> cafe.copyOf(0));
        cafe.seat(2, 0, true);
        cafe.seat(2, 0, true);
        Due.is("copyOf(0)", 0, cafe.copyOf(0));
        Due.is("copyOf(1)", 1, cafe.copyOf(1));
        Due.refuses("copyOf(-1)", Due.INDEX, () -> cafe.copyOf(-1));
        Due.refuses("copyOf(2)", Due.INDEX, () -> cafe.copyOf(2));
        cafe.go(0);
        Due.refuses("gone", Due.INDEX, () -> cafe.copyOf(0));
        Due.is("copyOf(1) still", 1, cafe.copyOf(1));
    }

    private static void promise22Teaching() {
        GameCafe cafe = withCopies(0, 1);
        cafe.seat(2, 0, false);
        Due.is("teaching(0)", 10, cafe.teaching(0));
        Due.is("teaching(1)", 0, cafe.teaching(1));
        cafe.advance(9);
        Due.is("one minute", 1, cafe.teaching(0));
        cafe.advance(1);
        Due.is("the end", 0, cafe.teaching(0));
        cafe.advance(1000);
        Due.is("long after", 0, cafe.teaching(0));
        Due.is("teaching(2)", 0, cafe.teaching(2));
        Due.refuses("teaching(-1)", Due.INDEX, () -> cafe.teaching(-1));
        Due.refuses("teaching(3)", Due.INDEX, () -> cafe.teaching(3));
    }

    private static void promise23Plays() {
        GameCafe cafe = withCopies(4, 2);
        cafe.buy(1);
        for (int group = 0; group < 3; group++) {
            cafe.seat(2, 4, true);
            cafe.go(group);
        }
        cafe.seat(2, 1, true);
        cafe.go(3);
        cafe.seat(2, 4, true);
        Due.is("plays(4)", 3, cafe.plays(4));
        Due.is("plays(1)", 1, cafe.plays(1));
        Due.is("plays(0)", 0, cafe.plays(0));
        Due.refuses("plays(-1)", Due.INDEX, () -> cafe.plays(-1));
        Due.refuses("plays(5)", Due.INDEX, () -> cafe.plays(5));
    }
}
