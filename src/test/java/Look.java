/**
 * All that a cafe tells, as a text of calls with their answers: what its queries say, and what only
 * shows when other calls are made on it. Two cafes in the same state tell the same.
 */
final class Look {
    interface Start {
        GameCafe make();
    }

    interface Move {
        void on(GameCafe cafe);
    }

    /** So many ways to look; each uses a cafe up, so that it stays under 512 calls. */
    static final int WAYS = 5;

    private final GameCafe cafe;
    private final StringBuilder told = new StringBuilder();

    private Look(GameCafe cafe) {
        this.cafe = cafe;
    }

    static String at(GameCafe cafe, int way) {
        Look look = new Look(cafe);
        switch (way) {
            case 0: look.queries(); break;
            case 1: look.groups(); break;
            case 2: look.tablesStaffAndBorrowers(); break;
            case 3: look.games(); break;
            default: look.needs(); break;
        }
        return look.told.toString();
    }

    private long ask(String call, Due.Call asked) {
        told.append(call).append(" = ");
        long answer = Long.MIN_VALUE;
        try {
            answer = asked.answer();
            told.append(answer);
        } catch (RuntimeException thrown) {
            told.append(thrown.getClass().getSimpleName());
        }
        told.append('\n');
        return answer;
    }

    private void queries() {
        ask("minute()", () -> cafe.minute());
        ask("copies()", () -> cafe.copies());
        for (int i = 0; i < 15; i++) {
            int copy = i;
            ask("canBePlayed(" + copy + ")", () -> cafe.canBePlayed(copy) ? 1 : 0);
            ask("whereIs(" + copy + ")", () -> cafe.whereIs(copy));
            for (int k = 0; k < 4; k++) {
                int kind = k;
                ask("parts(" + copy + ", " + kind + ")", () -> cafe.parts(copy, kind));
            }
        }
        for (int i = 0; i < 60; i++) {
            int group = i;
            ask("copyOf(" + group + ")", () -> cafe.copyOf(group));
        }
        for (int i = 0; i < 8; i++) {
            int at = i;
            ask("at(" + at + ")", () -> cafe.at(at));
            ask("teaching(" + at + ")", () -> cafe.teaching(at));
            ask("plays(" + at + ")", () -> cafe.plays(at));
            ask("propose(" + (at + 1) + ")", () -> cafe.propose(at + 1));
        }
    }

    /** How many people a group has, and since when it is there. */
    private void groups() {
        for (int i = 0; i < 6; i++) {
            int table = i;
            int group = (int) ask("at(" + table + ")", () -> cafe.at(table));
            for (int more = 0; group >= 0 && more < 7; more++) {
                ask("grow(" + group + ", 1)", () -> cafe.grow(group, 1));
            }
        }
        allGo();
    }

    private void allGo() {
        for (int i = 0; i < 60; i++) {
            int group = i;
            ask("go(" + group + ")", () -> cafe.go(group));
        }
    }

    private void tablesStaffAndBorrowers() {
        for (int i = 0; i < 6; i++) {
            int table = i;
            ask("setSeats(" + table + ", 8)", () -> cafe.setSeats(table, 8));
        }
        for (int i = 0; i < 15; i++) {
            int one = i / 5;
            int game = i % 5;
            ask("teach(" + one + ", " + game + ", true)", () -> cafe.teach(one, game, true) ? 1 : 0);
        }
        allComeBack();
        for (int i = 0; i < 15; i++) {
            int copy = i;
            ask("lend(" + copy + ", " + copy % 6 + ")", () -> cafe.lend(copy, copy % 6));
        }
        wholes();
    }

    private void allComeBack() {
        for (int i = 0; i < 6; i++) {
            int borrower = i;
            ask("giveBack(" + borrower + ", 0, 0)", () -> cafe.giveBack(borrower, 0, 0));
        }
    }

    /** How many parts a copy has that is bought now. */
    private void wholes() {
        for (int i = 0; i < 5; i++) {
            int game = i;
            int copy = (int) ask("buy(" + game + ")", () -> cafe.buy(game));
            for (int k = 0; copy >= 0 && k < 4; k++) {
                int kind = k;
                ask("parts(" + copy + ", " + kind + ")", () -> cafe.parts(copy, kind));
            }
        }
    }

    /** Whom a game is for, and how long it is taught. */
    private void games() {
        allGo();
        allComeBack();
        for (int i = 0; i < 6; i++) {
            int table = i;
            ask("setSeats(" + table + ", 8)", () -> cafe.setSeats(table, 8));
        }
        for (int i = 0; i < 5; i++) {
            int game = i;
            ask("buy(" + game + ")", () -> cafe.buy(game));
            for (int p = 1; p <= 8; p++) {
                int people = p;
                // To be taught: teaching goes on when the group has gone, so the minutes show here.
                int group = (int) ask("seat(" + people + ", " + game + ", false)",
                        () -> cafe.seat(people, game, false));
                if (group >= 0) {
                    ask("teaching(0)", () -> cafe.teaching(0));
                    ask("teaching(1)", () -> cafe.teaching(1));
                    ask("teaching(2)", () -> cafe.teaching(2));
                    ask("go(" + group + ")", () -> cafe.go(group));
                }
            }
            ask("advance(61)", () -> cafe.advance(61));
        }
    }

    /** How many parts a game needs: which count of them is the last that can be played with. */
    private void needs() {
        allComeBack();
        for (int i = 0; i < 8; i++) {
            int copy = i;
            for (int k = 0; k < 4; k++) {
                int kind = k;
                for (int lost = 0; lost < 4; lost++) {
                    ask("count(" + copy + ", " + kind + ", -1)", () -> cafe.count(copy, kind, -1));
                    ask("canBePlayed(" + copy + ")", () -> cafe.canBePlayed(copy) ? 1 : 0);
                }
                ask("count(" + copy + ", " + kind + ", 4)", () -> cafe.count(copy, kind, 4));
            }
        }
    }
}
