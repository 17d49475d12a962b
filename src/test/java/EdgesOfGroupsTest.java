/** Promises 9 to 12, 15 and 20 to 23, edge by edge: seat, grow, go, advance, minute, at, copyOf, teaching, plays. */
public final class EdgesOfGroupsTest {
    private static final int[] NO_GROUP_IN_BUSY = {Integer.MIN_VALUE, -1, 2, 3, 59, 60, Integer.MAX_VALUE};

    public static void main(String[] args) throws IllegalAccessException {
        Due.all(EdgesOfGroupsTest.class);
    }

    // ---- promise 9: seat

    static void promise9Games0To4() {
        for (int game = 0; game <= 4; game++) {
            GameCafe cafe = Cafes.fifteenCopies();
            Due.is("seat(2, " + game + ")", 0, cafe.seat(2, game, true));
            Due.is("its copy", 3 * game, cafe.copyOf(0));
        }
    }

    static void promise9NoSuchGame() {
        for (int game : Cafes.outside(0, 4)) {
            Refused.busy(Due.INDEX, "seat(2, " + game + ")", cafe -> cafe.seat(2, game, true));
        }
    }

    static void promise9People1() {
        GameCafe cafe = Cafes.withCopies(0, 1);
        Due.is("seat(1)", 0, cafe.seat(1, 0, true));
    }

    static void promise9People8() {
        GameCafe cafe = Cafes.withCopies(0, 1);
        cafe.setSeats(5, 8);
        Due.is("seat(8)", 0, cafe.seat(8, 0, true));
    }

    static void promise9PeopleBelow1OrAbove8() {
        for (int people : Cafes.outside(1, 8)) {
            Refused.busy(Due.ARGUMENT, "seat(" + people + ")", cafe -> cafe.seat(people, 0, false));
        }
    }

    static void promise9TheLeastAndTheMost() {
        GameCafe cafe = Cafes.withCopies(0, 2);
        cafe.setGame(0, 3, 5, 10);
        Due.is("3 people", 0, cafe.seat(3, 0, true));
        Due.is("5 people", 1, cafe.seat(5, 0, true));
    }

    static void promise9OneFewerThanTheLeast() {
        Refused.busy(Due.ARGUMENT, "2 of 3 to 5", cafe -> cafe.seat(2, 1, true));
        Refused.busy(Due.ARGUMENT, "1 of 2 to 4", cafe -> cafe.seat(1, 2, true));
    }

    static void promise9OneMoreThanTheMost() {
        Refused.busy(Due.ARGUMENT, "6 of 3 to 5", cafe -> cafe.seat(6, 1, true));
        Refused.busy(Due.ARGUMENT, "5 of 2 to 4", cafe -> cafe.seat(5, 2, true));
    }

    static void promise9TheSixtiethGroupButNotTheNext() {
        GameCafe full = Cafes.afterGroups(59);
        Due.is("the sixtieth", 59, full.seat(2, 0, true));
        Due.refuses("the sixty-first", Due.STATE, () -> full.seat(2, 0, true));
        Refused.in(Cafes::sixtyGroups, Due.STATE, "who know it", cafe -> cafe.seat(2, 0, true));
        Refused.in(Cafes::sixtyGroups, Due.STATE, "to be taught", cafe -> cafe.seat(2, 0, false));
    }

    static void promise9SixtyGroupsThoughAllHaveGone() {
        Look.Start allGone = () -> {
            GameCafe cafe = Cafes.sixtyGroups();
            cafe.go(59);
            return cafe;
        };
        Refused.in(allGone, Due.STATE, "the sixty-first", cafe -> cafe.seat(2, 0, true));
    }

    static void promise9NumbersAreNotUsedAgain() {
        GameCafe cafe = Cafes.withCopies(0, 2);
        cafe.seat(2, 0, true);
        cafe.go(0);
        Due.is("the next", 1, cafe.seat(2, 0, true));
    }

    static void promise9ARefusedGroupTakesNoNumber() {
        GameCafe cafe = Cafes.withCopies(0, 1);
        Due.refuses("8 people", Due.STATE, () -> cafe.seat(8, 0, true));
        Due.is("the next", 0, cafe.seat(2, 0, true));
    }

    static void promise9SeatsJustEnough() {
        for (int people = 2; people <= 7; people++) {
            GameCafe cafe = Cafes.withCopies(0, 1);
            cafe.seat(people, 0, true);
            Due.is(people + " people at as many seats", 0, cafe.at(people - 2));
        }
    }

    static void promise9OneSeatTooFew() {
        Look.Start twoSeats = () -> {
            GameCafe cafe = Cafes.withCopies(0, 1);
            for (int table = 0; table <= 5; table++) {
                cafe.setSeats(table, 2);
            }
            return cafe;
        };
        Due.is("2 people", 0, twoSeats.make().seat(2, 0, true));
        Refused.in(twoSeats, Due.STATE, "3 people", cafe -> cafe.seat(3, 0, true));
        Refused.in(twoSeats, Due.STATE, "3 people to be taught", cafe -> cafe.seat(3, 0, false));
    }

    static void promise9FewestSeatsBeforeTheLowestTable() {
        GameCafe cafe = Cafes.withCopies(0, 1);
        cafe.setSeats(0, 8);
        cafe.setSeats(5, 3);
        cafe.setSeats(1, 4);
        cafe.seat(3, 0, true);
        Due.is("3 seats, at the highest table", 0, cafe.at(5));
    }

    static void promise9OfSeveralTablesTheLowest() {
        GameCafe cafe = Cafes.withCopies(0, 3);
        cafe.setSeats(1, 4);
        cafe.setSeats(4, 4);
        cafe.seat(3, 0, true);
        Due.is("the first", 0, cafe.at(1));
        cafe.seat(3, 0, true);
        Due.is("the second", 1, cafe.at(2));
        cafe.seat(3, 0, true);
        Due.is("the third", 2, cafe.at(4));
    }

    static void promise9ATakenTableIsNotFree() {
        GameCafe cafe = Cafes.busy();
        cafe.seat(2, 0, true);
        Due.is("tables 0 and 1 are taken", 3, cafe.at(2));
    }

    static void promise9AllTablesTaken() {
        Look.Start taken = () -> {
            GameCafe cafe = Cafes.withCopies(0, 7);
            for (int group = 0; group < 6; group++) {
                cafe.seat(1, 0, true);
            }
            return cafe;
        };
        Refused.in(taken, Due.STATE, "1 person", cafe -> cafe.seat(1, 0, true));
        Refused.in(taken, Due.STATE, "1 person to be taught", cafe -> cafe.seat(1, 0, false));
    }

    static void promise9TheTableOfTheLastPersonIsFreedByGo() {
        GameCafe cafe = Cafes.busy();
        cafe.go(0);
        cafe.seat(2, 0, true);
        Due.is("at(0)", 3, cafe.at(0));
    }

    static void promise9TheLowestCopyOfTheGame() {
        GameCafe cafe = new GameCafe();
        for (int game : new int[] {1, 0, 1, 0}) {
            cafe.buy(game);
        }
        Due.is("of game 0", 1, cafe.copyOf(cafe.seat(2, 0, true)));
        Due.is("the next of game 0", 3, cafe.copyOf(cafe.seat(2, 0, true)));
        Due.is("of game 1", 0, cafe.copyOf(cafe.seat(2, 1, true)));
    }

    static void promise9CopiesThatAreLentOrAtATableOrCannotBePlayedArePassedOver() {
        GameCafe cafe = Cafes.busy();
        Due.is("0 is at a table, 1 is there", 1, cafe.copyOf(cafe.seat(2, 0, true)));
        cafe.buy(0);
        Due.is("2 is lent, 3 cannot be played, 8 is there", 8, cafe.copyOf(cafe.seat(2, 0, true)));
    }

    static void promise9ACopyWithJustWhatItNeeds() {
        GameCafe cafe = Cafes.withCopies(0, 1);
        for (int kind = 0; kind <= 3; kind++) {
            cafe.count(0, kind, -1);
        }
        Due.is("short of a part of each kind", 0, cafe.seat(2, 0, true));
    }

    static void promise9NoCopyWithWhatItNeeds() {
        for (int k = 0; k <= 3; k++) {
            int kind = k;
            Look.Start oneFewer = () -> {
                GameCafe cafe = Cafes.withCopies(0, 1);
                cafe.count(0, kind, -2);
                return cafe;
            };
            Refused.in(oneFewer, Due.STATE, "one fewer of kind " + kind, cafe -> cafe.seat(2, 0, true));
            Refused.in(oneFewer, Due.STATE, "to be taught", cafe -> cafe.seat(2, 0, false));
        }
    }

    static void promise9NoCopyOfTheGame() {
        Refused.busy(Due.STATE, "no copy of game 3", cafe -> cafe.seat(2, 3, true));
        Refused.busy(Due.STATE, "no copy of game 3, to be taught", cafe -> cafe.seat(2, 3, false));
    }

    static void promise9NoCopyOnTheShelf() {
        Refused.busy(Due.STATE, "4 is at a table, 5 is lent", cafe -> cafe.seat(3, 1, true));
        Refused.busy(Due.STATE, "the same, to be taught", cafe -> cafe.seat(3, 1, false));
    }

    static void promise9WhoKnowTheGameTakeNoTeacher() {
        GameCafe cafe = Cafes.withCopies(0, 1);
        cafe.seat(2, 0, true);
        for (int one = 0; one <= 2; one++) {
            Due.is("teaching(" + one + ")", 0, cafe.teaching(one));
        }
    }

    static void promise9WhoKnowTheGameAreSeatedWithoutAnyTeacher() {
        GameCafe cafe = Cafes.withCopies(0, 1);
        for (int one = 0; one <= 2; one++) {
            cafe.teach(one, 0, false);
        }
        Due.is("seat", 0, cafe.seat(2, 0, true));
    }

    static void promise9TheLowestWhoKnowsAndIsNotTeaching() {
        GameCafe cafe = Cafes.busy();
        cafe.seat(2, 0, false);
        Due.is("0 does not know it", 0, cafe.teaching(0));
        Due.is("1 is teaching", 25, cafe.teaching(1));
        Due.is("2 teaches", 30, cafe.teaching(2));
        cafe.seat(2, 2, false);
        Due.is("0 knows game 2", 10, cafe.teaching(0));
    }

    static void promise9NobodyKnowsTheGame() {
        Look.Start forgotten = () -> {
            GameCafe cafe = Cafes.withCopies(0, 1);
            for (int one = 0; one <= 2; one++) {
                cafe.teach(one, 0, false);
            }
            return cafe;
        };
        Refused.in(forgotten, Due.STATE, "to be taught", cafe -> cafe.seat(2, 0, false));
    }

    private static GameCafe allTeach() {
        GameCafe cafe = Cafes.withCopies(0, 5);
        for (int group = 0; group <= 2; group++) {
            cafe.seat(2, 0, false);
        }
        return cafe;
    }

    static void promise9AllWhoKnowTheGameAreTeaching() {
        Refused.in(EdgesOfGroupsTest::allTeach, Due.STATE, "all three teach", cafe -> cafe.seat(2, 0, false));
        Look.Start minuteLeft = () -> {
            GameCafe cafe = allTeach();
            cafe.advance(9);
            return cafe;
        };
        Refused.in(minuteLeft, Due.STATE, "a minute before the end", cafe -> cafe.seat(2, 0, false));
    }

    static void promise9TheTeacherIsFreeWhenTheMinutesAreOver() {
        GameCafe cafe = allTeach();
        cafe.advance(10);
        Due.is("seat", 3, cafe.seat(2, 0, false));
        Due.is("the lowest", 10, cafe.teaching(0));
        Due.is("not the next", 0, cafe.teaching(1));
    }

    static void promise9OneTeachesOneGroupOnlyThoughOfAnotherGame() {
        GameCafe cafe = Cafes.fifteenCopies();
        cafe.seat(2, 0, false);
        cafe.seat(2, 1, false);
        Due.is("teaching(0)", 10, cafe.teaching(0));
        Due.is("teaching(1)", 10, cafe.teaching(1));
        Due.is("teaching(2)", 0, cafe.teaching(2));
    }

    static void promise9NoSuchGameBeforePeople() {
        Refused.busy(Due.INDEX, "game 5, people 0", cafe -> cafe.seat(0, 5, true));
        Refused.busy(Due.INDEX, "game -1, people 9", cafe -> cafe.seat(9, -1, true));
    }

    static void promise9NoSuchGameBefore60Groups() {
        Refused.in(Cafes::sixtyGroups, Due.INDEX, "game 5", cafe -> cafe.seat(2, 5, true));
    }

    static void promise9PeopleBefore60Groups() {
        Refused.in(Cafes::sixtyGroups, Due.ARGUMENT, "people 0", cafe -> cafe.seat(0, 0, true));
        Refused.in(Cafes::sixtyGroups, Due.ARGUMENT, "people 9", cafe -> cafe.seat(9, 0, true));
        Refused.in(Cafes::sixtyGroups, Due.ARGUMENT, "not for the game", cafe -> cafe.seat(5, 1, true));
    }

    static void promise9PeopleBeforeTableCopyAndTeacher() {
        Refused.in(GameCafe::new, Due.ARGUMENT, "not for the game, no copy", cafe -> cafe.seat(5, 0, true));
        Refused.in(GameCafe::new, Due.ARGUMENT, "people 9, no copy", cafe -> cafe.seat(9, 0, true));
        Refused.in(EdgesOfGroupsTest::allTeach, Due.ARGUMENT, "people 9, no table, no teacher",
                cafe -> cafe.seat(9, 0, false));
    }

    // ---- promise 10: grow

    static void promise10NoSuchGroup() {
        for (int group : NO_GROUP_IN_BUSY) {
            Refused.busy(Due.INDEX, "grow(" + group + ", 1)", cafe -> cafe.grow(group, 1));
        }
    }

    static void promise10Group0And59() {
        GameCafe cafe = Cafes.sixtyGroups();
        Due.is("grow(59, 1)", 1, cafe.grow(59, 1));
        Due.is("grow(0, 1)", 2, Cafes.busy().grow(0, 1));
        Refused.in(Cafes::sixtyGroups, Due.INDEX, "grow(60, 1)", sixty -> sixty.grow(60, 1));
        Refused.in(Cafes::sixtyGroups, Due.INDEX, "grow(58, 1)", sixty -> sixty.grow(58, 1));
    }

    static void promise10More1() {
        GameCafe cafe = Cafes.withCopies(0, 1);
        cafe.seat(2, 0, true);
        Due.is("3 people at table 1", 1, cafe.grow(0, 1));
    }

    static void promise10More7() {
        GameCafe cafe = Cafes.withCopies(0, 1);
        cafe.setSeats(3, 8);
        cafe.seat(1, 0, true);
        Due.is("8 people at table 3", 3, cafe.grow(0, 7));
    }

    static void promise10MoreBelow1OrAbove7() {
        for (int more : Cafes.outside(1, 7)) {
            Refused.busy(Due.ARGUMENT, "more " + more, cafe -> cafe.grow(0, more));
        }
    }

    static void promise10JustAsManyAsTheGameIsFor() {
        GameCafe cafe = Cafes.busy();
        Due.is("5 of 5", 3, cafe.grow(1, 2));
    }

    static void promise10OneMoreThanTheGameIsFor() {
        Refused.busy(Due.STATE, "6 of 5", cafe -> cafe.grow(1, 3));
    }

    static void promise10OneMoreThanTheGameIsForThoughTheTableHasSeats() {
        Look.Start roomy = () -> {
            GameCafe cafe = new GameCafe();
            for (int table = 0; table <= 5; table++) {
                cafe.setSeats(table, 8);
            }
            cafe.buy(0);
            cafe.seat(4, 0, true);
            return cafe;
        };
        Refused.in(roomy, Due.STATE, "5 of 4", cafe -> cafe.grow(0, 1));
    }

    static void promise10AsManyAsTheGameIsForAtTheTimeOfTheCall() {
        GameCafe cafe = Cafes.busy();
        cafe.setGame(1, 1, 6, 10);
        Due.is("6 of 6, first for 5", 4, cafe.grow(1, 3));
        Look.Start fewer = () -> {
            GameCafe other = Cafes.busy();
            other.setGame(1, 1, 3, 10);
            return other;
        };
        Refused.in(fewer, Due.STATE, "4 of 3, first for 5", other -> other.grow(1, 1));
    }

    static void promise10WhetherTheyAreFewerIsNotAsked() {
        GameCafe cafe = Cafes.busy();
        cafe.setGame(0, 8, 8, 10);
        Due.is("3 people of 8 to 8", 2, cafe.grow(0, 1));
    }

    static void promise10SeatsJustEnoughItStays() {
        GameCafe cafe = Cafes.withCopies(0, 1);
        cafe.setSeats(0, 5);
        cafe.setSeats(1, 2);
        cafe.setSeats(2, 5);
        cafe.setSeats(3, 4);
        cafe.seat(4, 0, true);
        Due.is("at the table with 4 seats", 0, cafe.at(3));
        Due.is("5 people: the lowest with 5 seats", 0, cafe.grow(0, 1));
        cafe.go(0);
        cafe.setSeats(3, 5);
        cafe.setSeats(0, 8);
        cafe.seat(4, 0, true);
        Due.is("at table 2", 1, cafe.at(2));
        Due.is("5 people at 5 seats", 2, cafe.grow(1, 1));
        Due.is("at(2)", 1, cafe.at(2));
    }

    static void promise10SeatsMoreThanEnoughItStaysThoughAnotherFitsBetter() {
        GameCafe cafe = Cafes.withCopies(0, 2);
        for (int table = 1; table <= 5; table++) {
            cafe.setSeats(table, 1);
        }
        cafe.setSeats(0, 8);
        cafe.seat(2, 0, true);
        cafe.setSeats(3, 3);
        Due.is("3 people stay at 8 seats", 0, cafe.grow(0, 1));
        Due.is("at(0)", 0, cafe.at(0));
        Due.is("at(3)", GameCafe.NONE, cafe.at(3));
        cafe.go(0);
        cafe.seat(3, 0, true);
        Due.is("a new group of 3 has the other", 1, cafe.at(3));
    }

    static void promise10ItStaysThoughNoOtherTableIsFree() {
        GameCafe cafe = Cafes.withCopies(0, 6);
        for (int group = 0; group < 6; group++) {
            cafe.seat(1, 0, true);
        }
        Due.is("7 people at 7 seats", 5, cafe.grow(5, 6));
        Due.is("2 people at 2 seats", 0, cafe.grow(0, 1));
    }

    static void promise10OneSeatTooFewItMoves() {
        GameCafe cafe = Cafes.busy();
        Due.is("group 1 moves", 2, cafe.grow(1, 1));
        Due.is("at(1)", GameCafe.NONE, cafe.at(1));
        Due.is("at(2)", 1, cafe.at(2));
        Due.is("its copy", 4, cafe.copyOf(1));
    }

    static void promise10FewestSeatsBeforeTheLowestTable() {
        GameCafe cafe = Cafes.busy();
        cafe.setSeats(2, 8);
        cafe.setSeats(3, 7);
        cafe.setSeats(4, 5);
        Due.is("4 people: 5 seats", 4, cafe.grow(0, 2));
    }

    static void promise10OfSeveralTablesTheLowest() {
        GameCafe cafe = Cafes.busy();
        cafe.setSeats(2, 6);
        cafe.setSeats(3, 6);
        cafe.setSeats(4, 6);
        Due.is("4 people: 6 seats", 2, cafe.grow(0, 2));
    }

    static void promise10TablesThatAreTakenArePassedOver() {
        GameCafe cafe = Cafes.busy();
        Due.is("3 people: table 1 is taken", 2, cafe.grow(0, 1));
    }

    static void promise10NoTableHasSeatsEnough() {
        Refused.busy(Due.STATE, "8 people, 7 seats", cafe -> cafe.grow(0, 6));
    }

    static void promise10TheTableWithSeatsEnoughIsTaken() {
        Look.Start taken = () -> {
            GameCafe cafe = Cafes.withCopies(0, 3);
            cafe.seat(2, 0, true);
            cafe.seat(7, 0, true);
            return cafe;
        };
        Refused.in(taken, Due.STATE, "7 people", cafe -> cafe.grow(0, 5));
        Due.is("6 people", 4, taken.make().grow(0, 4));
    }

    static void promise10ItsOwnTableIsFreeForOthersThen() {
        GameCafe cafe = Cafes.busy();
        cafe.grow(0, 1);
        Due.is("at(0)", GameCafe.NONE, cafe.at(0));
        cafe.seat(2, 0, true);
        Due.is("another group", 3, cafe.at(0));
    }

    static void promise10ItsPeopleAreAddedUp() {
        GameCafe cafe = Cafes.busy();
        cafe.grow(1, 1);
        cafe.grow(1, 1);
        Due.refuses("6 of 5", Due.STATE, () -> cafe.grow(1, 1));
        Due.is("at(3)", 1, cafe.at(3));
    }

    static void promise10NoCopyOrTeacherIsAskedFor() {
        GameCafe cafe = Cafes.busy();
        cafe.count(0, 0, -5);
        for (int one = 0; one <= 2; one++) {
            cafe.teach(one, 0, false);
        }
        Due.is("grows with a copy that cannot be played", 2, cafe.grow(0, 1));
        Due.is("nobody else teaches", 0, cafe.teaching(2));
    }

    static void promise10Behind60Groups() {
        Due.is("the last of 60 grows", 2, Cafes.sixtyGroups().grow(59, 2));
    }

    static void promise10NoSuchGroupBeforeMore() {
        Refused.busy(Due.INDEX, "gone, more 8", cafe -> cafe.grow(2, 8));
        Refused.busy(Due.INDEX, "not seated, more 0", cafe -> cafe.grow(3, 0));
    }

    static void promise10NoSuchGroupBeforeTooMany() {
        Refused.busy(Due.INDEX, "gone, more 7", cafe -> cafe.grow(2, 7));
    }

    static void promise10MoreBeforeTooMany() {
        Refused.busy(Due.ARGUMENT, "more 8 of 5", cafe -> cafe.grow(1, 8));
        Refused.busy(Due.ARGUMENT, "more 8, no table", cafe -> cafe.grow(0, 8));
    }

    // ---- promise 11: go

    static void promise11NoSuchGroup() {
        for (int group : NO_GROUP_IN_BUSY) {
            Refused.busy(Due.INDEX, "go(" + group + ")", cafe -> cafe.go(group));
        }
        Refused.in(GameCafe::new, Due.INDEX, "go(0) when new", cafe -> cafe.go(0));
    }

    static void promise11ASecondTime() {
        GameCafe cafe = Cafes.busy();
        cafe.go(0);
        Due.refuses("go(0)", Due.INDEX, () -> cafe.go(0));
        Due.is("plays(0)", 2, cafe.plays(0));
    }

    static void promise11Group59And60() {
        GameCafe cafe = Cafes.sixtyGroups();
        Due.is("go(59)", 0, cafe.go(59));
        Due.is("plays(0)", 60, cafe.plays(0));
        Refused.in(Cafes::sixtyGroups, Due.INDEX, "go(60)", sixty -> sixty.go(60));
    }

    static void promise11NoMinutes() {
        GameCafe cafe = Cafes.withCopies(0, 1);
        cafe.advance(7);
        cafe.seat(2, 0, true);
        Due.is("at once", 0, cafe.go(0));
        Due.is("a play though", 1, cafe.plays(0));
    }

    static void promise11MinutesSinceItWasSeated() {
        GameCafe cafe = Cafes.busy();
        Due.is("group 1", 0, cafe.go(1));
        cafe.grow(0, 1);
        cafe.advance(1);
        Due.is("group 0", 6, cafe.go(0));
    }

    static void promise11AllTheMinutesThereAre() {
        GameCafe cafe = Cafes.withCopies(0, 1);
        cafe.seat(2, 0, true);
        for (int step = 0; step < 100; step++) {
            cafe.advance(1000);
        }
        Due.is("from the first to the last", 100000, cafe.go(0));
    }

    static void promise11ItsTableIsFree() {
        GameCafe cafe = Cafes.busy();
        cafe.go(0);
        Due.is("at(0)", GameCafe.NONE, cafe.at(0));
        Due.is("at(1)", 1, cafe.at(1));
    }

    static void promise11ItsCopyIsOnTheShelfThoughItCannotBePlayed() {
        GameCafe cafe = Cafes.busy();
        cafe.count(0, 0, -5);
        cafe.go(0);
        Due.is("whereIs(0)", GameCafe.SHELF, cafe.whereIs(0));
        Due.is("whereIs(4)", GameCafe.TABLE, cafe.whereIs(4));
    }

    static void promise11APlayOfItsGame() {
        GameCafe cafe = Cafes.busy();
        cafe.go(1);
        Due.is("plays(1)", 1, cafe.plays(1));
        Due.is("plays(0)", 1, cafe.plays(0));
    }

    static void promise11TheTeachingGoesOnToItsEnd() {
        GameCafe cafe = Cafes.busy();
        cafe.go(0);
        Due.is("teaching(1)", 25, cafe.teaching(1));
        cafe.advance(24);
        Due.is("its last minute", 1, cafe.teaching(1));
        cafe.advance(1);
        Due.is("its end", 0, cafe.teaching(1));
    }

    // ---- promises 12 and 15: advance and minute

    static void promise12Minutes1And1000() {
        GameCafe cafe = new GameCafe();
        Due.is("advance(1)", 1, cafe.advance(1));
        Due.is("advance(1000)", 1001, cafe.advance(1000));
    }

    static void promise12MinutesBelow1OrAbove1000() {
        for (int minutes : Cafes.outside(1, 1000)) {
            Refused.busy(Due.ARGUMENT, "advance(" + minutes + ")", cafe -> cafe.advance(minutes));
        }
    }

    static void promise12ToMinute100000() {
        Due.is("by 1", 100000, Cafes.atMinute(99999).advance(1));
        Due.is("by 1000", 100000, Cafes.atMinute(99000).advance(1000));
    }

    static void promise12AboveMinute100000() {
        Refused.in(() -> Cafes.atMinute(100000), Due.STATE, "by 1", cafe -> cafe.advance(1));
        Refused.in(() -> Cafes.atMinute(99999), Due.STATE, "by 2", cafe -> cafe.advance(2));
        Refused.in(() -> Cafes.atMinute(99001), Due.STATE, "by 1000", cafe -> cafe.advance(1000));
    }

    static void promise12MinutesBeforeMinute100000() {
        Refused.in(() -> Cafes.atMinute(100000), Due.ARGUMENT, "by 1001", cafe -> cafe.advance(1001));
        Refused.in(() -> Cafes.atMinute(100000), Due.ARGUMENT, "by 0", cafe -> cafe.advance(0));
        Refused.in(() -> Cafes.atMinute(100000), Due.ARGUMENT, "far", cafe -> cafe.advance(Integer.MAX_VALUE));
    }

    static void promise12NothingElseChanges() {
        GameCafe cafe = Cafes.busy();
        cafe.advance(1000);
        Due.is("at(0)", 0, cafe.at(0));
        Due.is("whereIs(2)", GameCafe.LENT, cafe.whereIs(2));
        Due.is("plays(0)", 1, cafe.plays(0));
    }

    static void promise12OtherCallsAtMinute100000() {
        GameCafe cafe = Cafes.atMinute(100000);
        cafe.setGame(0, 2, 4, 60);
        cafe.buy(0);
        Due.is("seat", 0, cafe.seat(2, 0, false));
        Due.is("teaching(0)", 60, cafe.teaching(0));
        Due.is("go", 0, cafe.go(0));
        Due.is("lend", 5000, cafe.lend(0, 0));
    }

    static void promise15FromMinute0To100000() {
        Due.is("at first", 0, new GameCafe().minute());
        Due.is("then", 1, Cafes.atMinute(1).minute());
        Due.is("at last", 100000, Cafes.atMinute(100000).minute());
    }

    static void promise15OnlyAdvanceLetsMinutesPass() {
        GameCafe cafe = Cafes.busy();
        cafe.go(0);
        cafe.giveBack(3, 0, 0);
        cafe.seat(2, 0, false);
        Due.is("minute()", 22, cafe.minute());
    }

    // ---- promise 20: at

    static void promise20Tables0To5() {
        GameCafe cafe = Cafes.withCopies(0, 6);
        for (int group = 0; group <= 5; group++) {
            cafe.seat(7 - group, 0, true);
        }
        for (int table = 0; table <= 5; table++) {
            Due.is("at(" + table + ")", 5 - table, cafe.at(table));
        }
    }

    static void promise20NoSuchTable() {
        for (int table : Cafes.outside(0, 5)) {
            Refused.busy(Due.INDEX, "at(" + table + ")", cafe -> cafe.at(table));
        }
    }

    static void promise20NoneBeforeAndAfterAGroup() {
        GameCafe cafe = Cafes.withCopies(0, 1);
        Due.is("before", GameCafe.NONE, cafe.at(0));
        cafe.seat(2, 0, true);
        Due.is("group 0", 0, cafe.at(0));
        cafe.go(0);
        Due.is("after", GameCafe.NONE, cafe.at(0));
    }

    static void promise20Group59() {
        Due.is("at(0)", 59, Cafes.sixtyGroups().at(0));
    }

    // ---- promise 21: copyOf

    static void promise21NoSuchGroup() {
        for (int group : NO_GROUP_IN_BUSY) {
            Refused.busy(Due.INDEX, "copyOf(" + group + ")", cafe -> cafe.copyOf(group));
        }
        Refused.in(Cafes::sixtyGroups, Due.INDEX, "copyOf(60)", cafe -> cafe.copyOf(60));
    }

    static void promise21Copies0And14() {
        GameCafe cafe = Cafes.fifteenCopies();
        cafe.lend(12, 0);
        cafe.lend(13, 1);
        Due.is("copy 14", 14, cafe.copyOf(cafe.seat(2, 4, true)));
        Due.is("copy 0", 0, cafe.copyOf(cafe.seat(2, 0, true)));
    }

    static void promise21Group59() {
        Due.is("copyOf(59)", 0, Cafes.sixtyGroups().copyOf(59));
    }

    static void promise21UntilItGoes() {
        GameCafe cafe = Cafes.busy();
        Due.is("copyOf(1)", 4, cafe.copyOf(1));
        cafe.go(1);
        Due.refuses("copyOf(1) when it has gone", Due.INDEX, () -> cafe.copyOf(1));
    }

    static void promise21TheSameCopyForAnotherGroupThen() {
        GameCafe cafe = Cafes.busy();
        cafe.go(0);
        Due.is("copyOf(3)", 0, cafe.copyOf(cafe.seat(2, 0, true)));
        Due.refuses("copyOf(0)", Due.INDEX, () -> cafe.copyOf(0));
    }

    // ---- promise 22: teaching

    static void promise22Staff0To2() {
        GameCafe cafe = allTeach();
        cafe.setGame(0, 1, 8, 60);
        cafe.advance(10);
        for (int one = 0; one <= 2; one++) {
            Due.is("teaching(" + one + ")", 0, cafe.teaching(one));
        }
        cafe.go(0);
        cafe.seat(2, 0, false);
        cafe.advance(1);
        cafe.seat(2, 0, false);
        Due.is("teaching(0)", 59, cafe.teaching(0));
        Due.is("teaching(1)", 60, cafe.teaching(1));
        Due.is("teaching(2)", 0, cafe.teaching(2));
    }

    static void promise22NoSuchOne() {
        for (int one : Cafes.outside(0, 2)) {
            Refused.busy(Due.INDEX, "teaching(" + one + ")", cafe -> cafe.teaching(one));
        }
    }

    static void promise22TheLastMinuteAndTheEnd() {
        GameCafe cafe = Cafes.busy();
        cafe.advance(24);
        Due.is("the last minute", 1, cafe.teaching(1));
        cafe.advance(1);
        Due.is("the end", 0, cafe.teaching(1));
        cafe.advance(1);
        Due.is("behind the end", 0, cafe.teaching(1));
    }

    static void promise22AcrossTheEndAtOnce() {
        GameCafe cafe = Cafes.busy();
        cafe.advance(1000);
        Due.is("long behind the end", 0, cafe.teaching(1));
    }

    static void promise22TheShortestAndTheLongest() {
        GameCafe cafe = Cafes.withCopies(0, 2);
        cafe.setGame(0, 1, 8, 1);
        cafe.seat(2, 0, false);
        cafe.setGame(0, 1, 8, 60);
        cafe.seat(2, 0, false);
        Due.is("one minute", 1, cafe.teaching(0));
        Due.is("sixty", 60, cafe.teaching(1));
    }

    // ---- promise 23: plays

    static void promise23Games0To4EachForItself() {
        for (int game = 0; game <= 4; game++) {
            GameCafe cafe = Cafes.fifteenCopies();
            cafe.go(cafe.seat(2, game, true));
            for (int asked = 0; asked <= 4; asked++) {
                Due.is("plays(" + asked + ")", asked == game ? 1 : 0, cafe.plays(asked));
            }
        }
    }

    static void promise23NoSuchGame() {
        for (int game : Cafes.outside(0, 4)) {
            Refused.busy(Due.INDEX, "plays(" + game + ")", cafe -> cafe.plays(game));
        }
    }

    static void promise23NoneWhileTheGroupIsThere() {
        Due.is("plays(1)", 0, Cafes.busy().plays(1));
    }

    static void promise23Sixty() {
        GameCafe cafe = Cafes.sixtyGroups();
        Due.is("plays(0)", 59, cafe.plays(0));
        cafe.go(59);
        Due.is("plays(0) at last", 60, cafe.plays(0));
    }

    static void promise23OtherCopiesOfTheGameCountTogether() {
        GameCafe cafe = Cafes.withCopies(3, 2);
        cafe.seat(2, 3, true);
        cafe.seat(2, 3, true);
        cafe.go(1);
        cafe.go(0);
        Due.is("plays(3)", 2, cafe.plays(3));
    }
}
