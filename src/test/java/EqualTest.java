/** Promise 42: equal papers. */
public final class EqualTest {
    public static void main(String[] args) {
        wrongCalls();
        priorities();
        words();
        authors();
        states();
        Check.end();
    }

    private static void wrongCalls() {
        Land land = new Land();
        Refereehall x = land.x;
        Check.outOfBounds("no paper", () -> x.equalTo(0));
        land.signed(0);
        Check.noElement("alone", () -> x.equalTo(0));
        land.signed(1);
        Check.noElement("the other one has no priority", () -> x.equalTo(0));
        x.showAhead(0);
        Check.noElement("not to itself", () -> x.equalTo(0));
        Check.due("equal", x.equalTo(1), 0);
    }

    private static void priorities() {
        Land land = new Land(9);
        Refereehall x = land.x;
        for (int i = 0; i < 4; i++) {
            land.signed(i);
        }
        x.showAhead(2);
        x.showAhead(1);
        Check.noElement("the same day, a higher number", () -> x.equalTo(1));
        Check.due("the same day, a lower number", x.equalTo(2), 1);
        Check.due("without a priority, the lowest", x.equalTo(3), 1);
        x.goOn(1);
        x.showAhead(0);
        Check.due("a later day", x.equalTo(0), 1);
        Check.noElement("an elder day", () -> x.equalTo(1));
        int paper = land.accepted(4, 5, 6);
        Check.due("the lowest of all, a later day or not", x.equalTo(3), 0);
        Check.due("none was accepted", x.state(paper), 'q');
    }

    private static void words() {
        Land land = new Land();
        Refereehall x = land.x;
        land.signed(0, 0, 31);
        land.signed(1, 0, 15);
        land.signed(2, 0, 7);
        land.signed(3, 7, 31);
        x.showAhead(0);
        Check.due("80", x.equalTo(1), 0);
        Check.noElement("60", () -> x.equalTo(2));
        Check.due("of any field", x.equalTo(3), 0);
        land.signed(4, 0, 1 + 2 + 4 + 8 + 16 + 32 + 64 + 128 + 256 + 512 + 1024 + 2048 + 4096 + 8192);
        land.signed(5, 0, 1 + 2 + 4 + 8 + 16 + 32 + 64 + 128 + 256 + 512 + 1024);
        x.showAhead(4);
        Check.noElement("78", () -> x.equalTo(5));
        x.revise(1, 0);
        Check.noElement("another version", () -> x.equalTo(1));
        land.signed(6, 0, 0);
        land.signed(7, 0, 0);
        x.showAhead(6);
        Check.noElement("no words", () -> x.equalTo(7));
    }

    private static void authors() {
        Land land = new Land();
        Refereehall x = land.x;
        land.withOneGone(0, 1);
        x.showAhead(0);
        land.signed(0);
        Check.noElement("an author in common", () -> x.equalTo(1));
        land.signed(1);
        Check.noElement("who was an author", () -> x.equalTo(2));
        land.signed(2);
        Check.due("no author in common", x.equalTo(3), 0);
        x.revise(3, 1);
        x.addAuthor(3, 1);
        Check.noElement("an author of the last version", () -> x.equalTo(3));
    }

    private static void states() {
        Land land = new Land(9);
        Refereehall x = land.x;
        land.signed(0);
        land.accepted(3, 1, 2);
        land.signed(4);
        x.showAhead(0);
        Check.due("shown", x.equalTo(2), 0);
        x.cite(2, 0);
        Check.noElement("cited", () -> x.equalTo(2));
        x.publish(1);
        Check.due("published", x.equalTo(2), 1);
        x.dropCitation(2, 0);
        x.cite(0, 2);
        Check.due("cited by the other one", x.equalTo(2), 0);
        x.withdraw(0);
        Check.due("withdrawn", x.equalTo(2), 1);
        x.retract(1);
        Check.noElement("retracted", () -> x.equalTo(2));
    }
}
