/** Promise 24, edge by edge: propose. */
public final class EdgesOfProposeTest {
    public static void main(String[] args) throws IllegalAccessException {
        Due.all(EdgesOfProposeTest.class);
    }

    private static GameCafe allForAll() {
        GameCafe cafe = Cafes.fifteenCopies();
        for (int game = 0; game <= 4; game++) {
            cafe.setGame(game, 1, 8, 10);
        }
        return cafe;
    }

    private static void play(GameCafe cafe, int game, int times) {
        for (int time = 0; time < times; time++) {
            cafe.go(cafe.seat(2, game, true));
        }
    }

    static void promise24People1And8() {
        GameCafe cafe = allForAll();
        cafe.setSeats(0, 8);
        Due.is("propose(1)", 0, cafe.propose(1));
        Due.is("propose(8)", 0, cafe.propose(8));
    }

    static void promise24PeopleBelow1OrAbove8() {
        for (int people : Cafes.outside(1, 8)) {
            Refused.busy(Due.ARGUMENT, "propose(" + people + ")", cafe -> cafe.propose(people));
            Refused.in(GameCafe::new, Due.ARGUMENT, "propose(" + people + ") when new", cafe -> cafe.propose(people));
        }
    }

    static void promise24NoneWithoutCopies() {
        GameCafe cafe = new GameCafe();
        for (int people = 1; people <= 8; people++) {
            Due.is("propose(" + people + ")", GameCafe.NONE, cafe.propose(people));
        }
    }

    static void promise24Game0AndGame4() {
        for (int game = 0; game <= 4; game++) {
            GameCafe cafe = new GameCafe();
            cafe.buy(game);
            Due.is("the only one", game, cafe.propose(2));
        }
    }

    static void promise24OneFewerThanTheLeastOrMoreThanTheMost() {
        GameCafe cafe = new GameCafe();
        cafe.buy(2);
        cafe.setGame(2, 3, 5, 10);
        Due.is("propose(2)", GameCafe.NONE, cafe.propose(2));
        Due.is("propose(3)", 2, cafe.propose(3));
        Due.is("propose(5)", 2, cafe.propose(5));
        Due.is("propose(6)", GameCafe.NONE, cafe.propose(6));
    }

    static void promise24NoGameIsForSoManyThoughPlayedMost() {
        GameCafe cafe = allForAll();
        play(cafe, 4, 3);
        cafe.setGame(4, 3, 8, 10);
        Due.is("propose(2)", 0, cafe.propose(2));
        Due.is("propose(3)", 4, cafe.propose(3));
    }

    static void promise24JustEnoughSeatsAndOneTooFew() {
        GameCafe cafe = allForAll();
        Due.is("7 people, 7 seats", 0, cafe.propose(7));
        Due.is("8 people, 7 seats", GameCafe.NONE, cafe.propose(8));
    }

    static void promise24AllTablesTaken() {
        GameCafe cafe = allForAll();
        for (int group = 0; group < 5; group++) {
            cafe.seat(1, group, true);
        }
        Due.is("one is free", 0, cafe.propose(1));
        cafe.seat(1, 0, true);
        Due.is("none is free", GameCafe.NONE, cafe.propose(1));
        cafe.go(0);
        Due.is("one is free again", 0, cafe.propose(1));
    }

    static void promise24OnlyCopiesThatCanBePlayed() {
        GameCafe cafe = new GameCafe();
        cafe.buy(1);
        cafe.count(0, 2, -1);
        Due.is("what it needs", 1, cafe.propose(2));
        cafe.count(0, 2, -1);
        Due.is("one fewer", GameCafe.NONE, cafe.propose(2));
    }

    static void promise24OnlyCopiesOnTheShelf() {
        GameCafe cafe = new GameCafe();
        cafe.buy(1);
        cafe.lend(0, 0);
        Due.is("lent", GameCafe.NONE, cafe.propose(2));
        cafe.giveBack(0, 0, 0);
        Due.is("back", 1, cafe.propose(2));
        cafe.seat(2, 1, true);
        Due.is("at a table", GameCafe.NONE, cafe.propose(2));
    }

    static void promise24PlayedMostButCannotBeHad() {
        GameCafe cafe = allForAll();
        play(cafe, 3, 2);
        play(cafe, 1, 1);
        Due.is("played most", 3, cafe.propose(2));
        for (int copy = 9; copy <= 11; copy++) {
            cafe.lend(copy, copy - 9);
        }
        Due.is("played most of the others", 1, cafe.propose(2));
    }

    static void promise24OfSeveralTheLowest() {
        GameCafe cafe = allForAll();
        play(cafe, 4, 2);
        play(cafe, 2, 2);
        play(cafe, 3, 2);
        play(cafe, 0, 1);
        Due.is("2, 3 and 4 were played twice", 2, cafe.propose(2));
    }

    static void promise24OnePlayMoreOfAHigherGame() {
        GameCafe cafe = allForAll();
        play(cafe, 0, 2);
        play(cafe, 4, 2);
        Due.is("as often", 0, cafe.propose(2));
        play(cafe, 4, 1);
        Due.is("once more", 4, cafe.propose(2));
    }

    static void promise24APlayThatGoesOnIsNotCounted() {
        GameCafe cafe = allForAll();
        cafe.seat(2, 4, true);
        Due.is("not gone yet", 0, cafe.propose(2));
        cafe.go(0);
        Due.is("gone", 4, cafe.propose(2));
    }

    static void promise24NobodyNeedsToTeach() {
        GameCafe cafe = new GameCafe();
        cafe.buy(0);
        for (int one = 0; one <= 2; one++) {
            cafe.teach(one, 0, false);
        }
        Due.is("nobody knows it", 0, cafe.propose(2));
        GameCafe other = allForAll();
        for (int one = 0; one <= 2; one++) {
            other.seat(1, 1, false);
        }
        Due.is("all are teaching", 0, other.propose(2));
    }

    static void promise24NoneBehind60Groups() {
        GameCafe cafe = Cafes.afterGroups(59);
        Due.is("59 groups", 0, cafe.propose(2));
        cafe.seat(2, 0, true);
        Due.is("60 groups", GameCafe.NONE, cafe.propose(2));
        cafe.go(59);
        Due.is("60 groups, all gone", GameCafe.NONE, cafe.propose(2));
    }

    static void promise24PeopleOutOfRangeBehind60Groups() {
        Refused.in(Cafes::sixtyGroups, Due.ARGUMENT, "propose(0)", cafe -> cafe.propose(0));
        Refused.in(Cafes::sixtyGroups, Due.ARGUMENT, "propose(9)", cafe -> cafe.propose(9));
    }

    static void promise24ProposingChangesNothing() {
        for (int way = 0; way < Look.WAYS; way++) {
            GameCafe cafe = Cafes.busy();
            Due.is("propose(2)", 0, cafe.propose(2));
            Due.is("all is as before", true, Look.at(Cafes.busy(), way).equals(Look.at(cafe, way)));
        }
    }
}
