/**
 * The head of "Terms", over all calls at once: what a refused call leaves behind, which exception
 * comes first, and the numbers there are. What "Terms" says of one call is tested with its promise.
 */
public final class EdgesOfTermsTest {
    public static void main(String[] args) throws IllegalAccessException {
        Due.all(EdgesOfTermsTest.class);
    }

    private static final class Refusal {
        final Class<? extends RuntimeException> due;
        final String what;
        final Look.Move call;

        Refusal(Class<? extends RuntimeException> due, String what, Look.Move call) {
            this.due = due;
            this.what = what;
            this.call = call;
        }
    }

    private static Refusal index(String what, Look.Move call) {
        return new Refusal(Due.INDEX, what, call);
    }

    private static Refusal argument(String what, Look.Move call) {
        return new Refusal(Due.ARGUMENT, what, call);
    }

    private static Refusal state(String what, Look.Move call) {
        return new Refusal(Due.STATE, what, call);
    }

    /** Each exception that each call can throw, in the order of the document, in the busy cafe. */
    private static final Refusal[] ALL = {
        index("setGame", cafe -> cafe.setGame(5, 1, 1, 1)),
        argument("setGame", cafe -> cafe.setGame(0, 1, 9, 1)),
        index("setParts", cafe -> cafe.setParts(0, 4, 9, 9)),
        argument("setParts", cafe -> cafe.setParts(0, 0, 9, 10)),
        index("setSeats", cafe -> cafe.setSeats(6, 8)),
        argument("setSeats", cafe -> cafe.setSeats(5, 9)),
        state("setSeats", cafe -> cafe.setSeats(0, 8)),
        index("teach", cafe -> cafe.teach(3, 0, false)),
        index("buy", cafe -> cafe.buy(5)),
        index("count", cafe -> cafe.count(8, 0, 1)),
        argument("count", cafe -> cafe.count(1, 0, 21)),
        state("count", cafe -> cafe.count(2, 0, 1)),
        index("fill", cafe -> cafe.fill(3, 8)),
        argument("fill", cafe -> cafe.fill(3, 6)),
        state("fill", cafe -> cafe.fill(3, 2)),
        index("seat", cafe -> cafe.seat(2, 5, false)),
        argument("seat", cafe -> cafe.seat(2, 1, false)),
        state("seat", cafe -> cafe.seat(8, 0, false)),
        index("grow", cafe -> cafe.grow(2, 1)),
        argument("grow", cafe -> cafe.grow(0, 8)),
        state("grow", cafe -> cafe.grow(0, 6)),
        index("go", cafe -> cafe.go(2)),
        argument("advance", cafe -> cafe.advance(1001)),
        index("lend", cafe -> cafe.lend(1, 6)),
        state("lend", cafe -> cafe.lend(1, 3)),
        index("giveBack", cafe -> cafe.giveBack(6, 0, 1)),
        argument("giveBack", cafe -> cafe.giveBack(3, 0, 21)),
        state("giveBack", cafe -> cafe.giveBack(3, 0, 6)),
        index("parts", cafe -> cafe.parts(8, 0)),
        index("canBePlayed", cafe -> cafe.canBePlayed(8)),
        index("whereIs", cafe -> cafe.whereIs(8)),
        index("at", cafe -> cafe.at(6)),
        index("copyOf", cafe -> cafe.copyOf(2)),
        index("teaching", cafe -> cafe.teaching(3)),
        index("plays", cafe -> cafe.plays(5)),
        argument("propose", cafe -> cafe.propose(9)),
    };

    static void termsACallThatThrowsChangesNothing() {
        for (Refusal refusal : ALL) {
            Refused.busy(refusal.due, refusal.what, refusal.call);
        }
    }

    static void termsManyCallsThatThrowChangeNothing() {
        for (int way = 0; way < Look.WAYS; way++) {
            GameCafe cafe = Cafes.busy();
            for (int round = 0; round < 2; round++) {
                for (Refusal refusal : ALL) {
                    Due.refuses(refusal.what, refusal.due, () -> refusal.call.on(cafe));
                }
            }
            Due.is("all is as before", true, Look.at(Cafes.busy(), way).equals(Look.at(cafe, way)));
        }
    }

    static void termsACallThatThrewCanBeMadeWhenItsCauseIsGone() {
        GameCafe cafe = Cafes.busy();
        Due.refuses("no seats for 8", Due.STATE, () -> cafe.seat(8, 0, false));
        cafe.setSeats(5, 8);
        Due.is("8 seats", 3, cafe.seat(8, 0, false));
        Due.refuses("borrower 3 has one", Due.STATE, () -> cafe.lend(6, 3));
        cafe.giveBack(3, 0, 0);
        Due.is("it has none", 5400, cafe.lend(6, 3));
    }

    // ---- if several exceptions apply, the one that is named first

    static void termsIndexBeforeArgument() {
        Refused.busy(Due.INDEX, "setGame", cafe -> cafe.setGame(5, 0, 9, 61));
        Refused.busy(Due.INDEX, "setParts, game", cafe -> cafe.setParts(5, 0, 21, 22));
        Refused.busy(Due.INDEX, "setParts, kind", cafe -> cafe.setParts(0, 4, 21, 22));
        Refused.busy(Due.INDEX, "setSeats", cafe -> cafe.setSeats(6, 9));
        Refused.busy(Due.INDEX, "count, copy", cafe -> cafe.count(8, 0, 21));
        Refused.busy(Due.INDEX, "count, kind", cafe -> cafe.count(1, 4, 21));
        Refused.busy(Due.INDEX, "fill", cafe -> cafe.fill(8, 8));
        Refused.busy(Due.INDEX, "seat", cafe -> cafe.seat(9, 5, true));
        Refused.busy(Due.INDEX, "grow", cafe -> cafe.grow(2, 8));
        Refused.busy(Due.INDEX, "giveBack, borrower", cafe -> cafe.giveBack(6, 0, 21));
        Refused.busy(Due.INDEX, "giveBack, kind", cafe -> cafe.giveBack(3, 4, 21));
    }

    static void termsIndexBeforeState() {
        Refused.in(Cafes::fifteenCopies, Due.INDEX, "buy", cafe -> cafe.buy(5));
        Refused.busy(Due.INDEX, "count", cafe -> cafe.count(2, 4, 1));
        Refused.busy(Due.INDEX, "fill", cafe -> cafe.fill(0, 8));
        Refused.in(Cafes::sixtyGroups, Due.INDEX, "seat", cafe -> cafe.seat(2, 5, true));
        Refused.busy(Due.INDEX, "grow", cafe -> cafe.grow(2, 7));
        Refused.busy(Due.INDEX, "lend, copy", cafe -> cafe.lend(8, 3));
        Refused.busy(Due.INDEX, "lend, borrower", cafe -> cafe.lend(2, 6));
        Refused.busy(Due.INDEX, "giveBack", cafe -> cafe.giveBack(1, 4, 0));
    }

    static void termsArgumentBeforeState() {
        Refused.busy(Due.ARGUMENT, "setSeats", cafe -> cafe.setSeats(0, 9));
        Refused.busy(Due.ARGUMENT, "count", cafe -> cafe.count(2, 0, 21));
        Refused.busy(Due.ARGUMENT, "fill, the same", cafe -> cafe.fill(0, 0));
        Refused.busy(Due.ARGUMENT, "fill, unlike games", cafe -> cafe.fill(2, 4));
        Refused.in(Cafes::sixtyGroups, Due.ARGUMENT, "seat", cafe -> cafe.seat(9, 0, false));
        Refused.in(GameCafe::new, Due.ARGUMENT, "seat, not for the game", cafe -> cafe.seat(5, 0, true));
        Refused.busy(Due.ARGUMENT, "grow", cafe -> cafe.grow(1, 8));
        Refused.in(() -> Cafes.atMinute(100000), Due.ARGUMENT, "advance", cafe -> cafe.advance(1001));
        Refused.busy(Due.ARGUMENT, "giveBack", cafe -> cafe.giveBack(1, 0, 21));
    }

    static void termsIndexBeforeArgumentAndState() {
        Refused.busy(Due.INDEX, "count", cafe -> cafe.count(2, 4, 21));
        Refused.in(Cafes::sixtyGroups, Due.INDEX, "seat", cafe -> cafe.seat(0, -1, false));
        Refused.busy(Due.INDEX, "giveBack", cafe -> cafe.giveBack(1, 4, 21));
    }

    // ---- time, numbers, worth, and how long an object is used

    static void termsTimeIsToldFrom0() {
        GameCafe cafe = new GameCafe();
        Due.is("minute()", 0, cafe.minute());
        cafe.advance(1);
        Due.is("minute() then", 1, cafe.minute());
    }

    static void termsThereAreTheGames0To4() {
        GameCafe cafe = new GameCafe();
        for (int game = 0; game <= 4; game++) {
            Due.is("plays(" + game + ")", 0, cafe.plays(game));
        }
        for (int game : Cafes.outside(0, 4)) {
            Due.refuses("plays(" + game + ")", Due.INDEX, () -> cafe.plays(game));
        }
    }

    static void termsThereAreTheKinds0To3() {
        GameCafe cafe = Cafes.busy();
        for (int kind = 0; kind <= 3; kind++) {
            Due.is("parts(4, " + kind + ")", 5, cafe.parts(4, kind));
        }
        for (int kind : Cafes.outside(0, 3)) {
            Due.refuses("parts(4, " + kind + ")", Due.INDEX, () -> cafe.parts(4, kind));
        }
    }

    static void termsThereAreTheTables0To5() {
        GameCafe cafe = new GameCafe();
        for (int table = 0; table <= 5; table++) {
            Due.is("at(" + table + ")", GameCafe.NONE, cafe.at(table));
        }
        for (int table : Cafes.outside(0, 5)) {
            Due.refuses("at(" + table + ")", Due.INDEX, () -> cafe.at(table));
        }
    }

    static void termsThereAreTheStaff0To2() {
        GameCafe cafe = new GameCafe();
        for (int one = 0; one <= 2; one++) {
            Due.is("teaching(" + one + ")", 0, cafe.teaching(one));
        }
        for (int one : Cafes.outside(0, 2)) {
            Due.refuses("teaching(" + one + ")", Due.INDEX, () -> cafe.teaching(one));
        }
    }

    static void termsThereAreTheBorrowers0To5() {
        GameCafe cafe = Cafes.fifteenCopies();
        for (int borrower = 0; borrower <= 5; borrower++) {
            Due.is("lend to " + borrower, 5000, cafe.lend(borrower, borrower));
        }
        for (int borrower : Cafes.outside(0, 5)) {
            Due.refuses("lend to " + borrower, Due.INDEX, () -> cafe.lend(6, borrower));
        }
    }

    static void termsAGameShortOfAPartIsPlayedAsLongAsItHasWhatItNeeds() {
        GameCafe cafe = new GameCafe();
        cafe.buy(0);
        cafe.count(0, 0, -1);
        Due.is("4 of 5, 4 are needed", 0, cafe.seat(2, 0, true));
        cafe.go(0);
        cafe.count(0, 0, -1);
        Due.refuses("3 of 5, 4 are needed", Due.STATE, () -> cafe.seat(2, 0, true));
    }

    static void termsThe512thCallIsAnswered() {
        GameCafe cafe = Cafes.sixtyGroups();
        int calls = 3 + 60 + 59;
        while (calls < 511) {
            Due.is("at(0)", 59, cafe.at(0));
            calls++;
        }
        Due.is("the 512th: go(59)", 0, cafe.go(59));
    }

    static void termsTheConstants() {
        Due.is("NONE", -1, GameCafe.NONE);
        Due.is("SHELF", 0, GameCafe.SHELF);
        Due.is("TABLE", 1, GameCafe.TABLE);
        Due.is("LENT", 2, GameCafe.LENT);
    }
}
