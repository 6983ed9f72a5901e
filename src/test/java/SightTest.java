/** Promise 46: who sees whom in the role that one has for a paper. */
public final class SightTest {
    public static void main(String[] args) {
        wrongCalls();
        single();
        doubleBlind();
        open();
        everybody();
        committee();
        reportsThatWentAlong();
        Check.end();
    }

    /** Authors 0 and 3 (who was one), referees 1 and 2 with a report, 4 asked alone, editor 9. */
    private static Land judged(char way) {
        Land land = new Land(9);
        Refereehall x = land.x;
        land.withOneGone(0, 3);
        x.assign(0);
        x.sendAway(5, 1);
        x.sendAway(6, 1);
        x.sendAway(7, 1);
        x.sendAway(8, 1);
        land.take(0, 1, 2);
        land.score(0, 60, 1, 2);
        x.setRules(0, 2, 50, 35, way);
        return land;
    }

    /** Each row a viewer, each column who is seen. */
    private static void due(Refereehall x, int paper, String... rows) {
        for (int viewer = 0; viewer < rows.length; viewer++) {
            for (int person = 0; person < rows[viewer].length(); person++) {
                Check.due(viewer + " sees " + person + " for " + paper, x.sees(viewer, paper, person),
                        rows[viewer].charAt(person) == '1');
            }
        }
    }

    private static void wrongCalls() {
        Land land = new Land();
        Refereehall x = land.x;
        Check.outOfBounds("no paper", () -> x.sees(0, 0, 0));
        x.begin(0, 0, 1);
        Check.outOfBounds("no viewer", () -> x.sees(10, 0, 0));
        Check.outOfBounds("viewer -1", () -> x.sees(-1, 0, 0));
        Check.outOfBounds("nobody to be seen", () -> x.sees(0, 0, 10));
        Check.outOfBounds("-1 to be seen", () -> x.sees(0, 0, -1));
        Check.outOfBounds("paper -1", () -> x.sees(0, -1, 0));
        Check.due("oneself without a role", x.sees(1, 0, 1), false);
        Check.due("oneself", x.sees(0, 0, 0), true);
        x.addAuthor(0, 2);
        x.dropAuthor(0, 2);
        Check.due("an author of no version", x.sees(0, 0, 2), false);
    }

    private static void single() {
        due(judged('s').x, 0,
                "1001000001",
                "1101000001",
                "1011000001",
                "1001000001",
                "1001100001",
                "0000000000",
                "0000000000",
                "0000000000",
                "0000000000",
                "1111100001");
    }

    private static void doubleBlind() {
        due(judged('d').x, 0,
                "1001000001",
                "0100000001",
                "0010000001",
                "1001000001",
                "0000100001",
                "0000000000",
                "0000000000",
                "0000000000",
                "0000000000",
                "1111100001");
    }

    private static void open() {
        due(judged('o').x, 0,
                "1111000001",
                "1111000001",
                "1111000001",
                "1111000001",
                "1001100001",
                "0000000000",
                "0000000000",
                "0000000000",
                "0000000000",
                "1111100001");
    }

    private static void everybody() {
        Land land = judged('d');
        Refereehall x = land.x;
        x.showAhead(0);
        due(x, 0,
                "1001000001",
                "1101000001",
                "1011000001",
                "1001000001",
                "1001100001",
                "1001000000",
                "1001000000",
                "1001000000",
                "1001000000",
                "1111100001");
        x.withdraw(0);
        Check.due("shown and withdrawn", x.sees(5, 0, 3), true);

        Land other = new Land(9);
        Refereehall y = other.x;
        y.addPerson(5, 0);
        other.accepted(0, 1, 2);
        Check.due("accepted", y.sees(10, 0, 0), false);
        y.publish(0);
        Check.due("published", y.sees(10, 0, 0), true);
        Check.due("the editor of a published one", y.sees(10, 0, 9), false);
        Check.due("the referee of a published one", y.sees(10, 0, 1), false);
        y.retract(0);
        Check.due("retracted", y.sees(10, 0, 0), true);
        Check.due("a published one, oneself without a role", y.sees(10, 0, 10), false);
    }

    private static void committee() {
        Land land = judged('d');
        Refereehall x = land.x;
        x.alarm(0, 1);
        x.decide(0);
        for (int i = 5; i < 8; i++) {
            x.addEditor(i, 1);
        }
        x.goOn(1);
        Check.due("an editor of a field", x.sees(5, 0, 0), false);
        x.seat(0);
        due(x, 0,
                "1001000001",
                "0100000001",
                "0010000001",
                "1001000001",
                "0000100001",
                "1111111101",
                "1111111101",
                "1111111101",
                "0000000000",
                "1111111101");
        x.vote(0, 5, true);
        x.vote(0, 6, true);
        Check.due("no role as it is over", x.sees(9, 0, 5), false);
        Check.due("nor sight", x.sees(5, 0, 0), false);
        Check.due("nor of oneself", x.sees(5, 0, 5), false);
    }

    private static void reportsThatWentAlong() {
        Land land = new Land(9);
        Refereehall x = land.x;
        x.addEditor(8, 1);
        land.taken(0, 1, 2, 3);
        x.report(0, 1, 60, 0, true);
        x.report(0, 2, 60, 0, false);
        x.setRules(0, 2, 100, 100, 'o');
        x.setRules(1, 2, 50, 35, 'o');
        x.decide(0);
        x.transfer(0, 1);
        Check.due("whose report counts on", x.sees(0, 0, 1), true);
        Check.due("whose report does not", x.sees(0, 0, 2), false);
        Check.due("who sees no author any more", x.sees(2, 0, 0), false);
        Check.due("who took an invitation of the elder editor", x.sees(3, 0, 3), false);
        x.assign(0);
        Check.due("the elder editor", x.sees(9, 0, 0), false);
        Check.due("nobody sees the elder editor", x.sees(8, 0, 9), false);
        Check.due("the editor sees the referee", x.sees(8, 0, 1), true);
        Check.due("the referee sees the editor", x.sees(1, 0, 8), true);
        x.invite(0, 1);
        Check.due("asked anew", x.invitation(0, 1), 'o');
        x.invite(0, 1);
        Check.due("asked, without a report", x.sees(1, 0, 2), false);
        Check.due("asked, and refused or not, sees the editor", x.sees(2, 0, 8), true);
        x.answer(0, 2, false);
        Check.due("refused sees the author", x.sees(2, 0, 0), true);
        Check.due("refused does not see a referee", x.sees(2, 0, 1), false);
    }
}
