/** Promises 15, 16 and 40: who becomes the editor of a paper, and the rules of its field. */
public final class EditorsTest {
    public static void main(String[] args) {
        wrongCalls();
        whoMayNot();
        order();
        load();
        loadByState();
        rejecters();
        firstPerson();
        setRules();
        Check.end();
    }

    private static void wrongCalls() {
        Land land = new Land();
        Refereehall x = land.x;
        Check.outOfBounds("assign no paper", () -> x.assign(0));
        Check.outOfBounds("editor of no paper", () -> x.editorOf(-1));
        x.begin(0, 0, 1);
        Check.unsupported("assign in state d", () -> x.assign(0));
        x.sign(0, 0);
        Check.noElement("nobody is an editor", () -> x.assign(0));
        Check.noElement("it has none", () -> x.editorOf(0));
        Check.due("nothing was noted", land.file(0), "byS");
        x.addEditor(1, 0);
        Check.due("assign", x.assign(0), 1);
        Check.due("state", x.state(0), 'e');
        Check.due("letters", land.file(0), "bySE");
        Check.due("its editor", x.editorOf(0), 1);
        Check.unsupported("assign in state e", () -> x.assign(0));
        x.withdraw(0);
        Check.due("its editor stays", x.editorOf(0), 1);
    }

    private static void whoMayNot() {
        Land land = new Land();
        Refereehall x = land.x;
        x.addPerson(1, 1);
        land.withOneGone(0, 1);
        x.addEditor(0, 0);
        Check.noElement("the author", () -> x.assign(0));
        x.addEditor(1, 0);
        Check.noElement("who was an author", () -> x.assign(0));
        x.addEditor(10, 0);
        Check.noElement("of the house of one who was an author", () -> x.assign(0));
        x.addEditor(2, 1);
        Check.noElement("of a field that is not tied", () -> x.assign(0));
        x.tie(1, 2);
        x.tie(2, 0);
        Check.noElement("of a field two ties away", () -> x.assign(0));
        x.addEditor(3, 2);
        x.sendAway(3, 2);
        Check.noElement("who is away", () -> x.assign(0));
        x.goOn(1);
        Check.noElement("who is away on the last day", () -> x.assign(0));
        x.goOn(1);
        Check.due("back, of a field one tie away", x.assign(0), 3);
    }

    private static void order() {
        Land land = new Land(7, 8);
        Refereehall x = land.x;
        x.tie(0, 1);
        x.addEditor(6, 1);
        Check.due("the lowest of the nearest", land.x.assign(land.signed(0)), 7);
        Check.due("with the fewest papers", x.assign(land.signed(0)), 8);
        Check.due("the lowest again", x.assign(land.signed(0)), 7);
        Check.due("the fewest again", x.assign(land.signed(0)), 8);
        x.addEditor(6, 0);
        Check.due("the least distance of any field", x.assign(land.signed(0)), 6);
    }

    private static void load() {
        Land land = new Land(9);
        Refereehall x = land.x;
        x.tie(0, 1);
        x.addEditor(1, 1);
        for (int i = 0; i < 3; i++) {
            Check.due("the nearest", x.assign(land.signed(0)), 9);
        }
        for (int i = 0; i < 3; i++) {
            Check.due("the next, as the nearest has three", x.assign(land.signed(0)), 1);
        }
        int paper = land.signed(0);
        Check.noElement("all have three", () -> x.assign(paper));
        x.withdraw(0);
        Check.due("a withdrawn one does not count", x.assign(paper), 9);
    }

    private static void loadByState() {
        Land land = new Land(9);
        Refereehall x = land.x;
        int draft = land.assigned(0);
        x.revise(draft, 1);
        int asked = land.taken(0, 1, 2);
        x.report(asked, 1, 60, 1, false);
        x.report(asked, 2, 60, 0, false);
        Check.due("asked for another version", x.decide(asked), 'q');
        int judged = land.taken(0, 1, 2);
        land.score(judged, 60, 1, 2);
        x.alarm(judged, 1);
        Check.due("a committee is to decide", x.decide(judged), 'k');
        int next = land.signed(0);
        Check.noElement("d, q and k count", () -> x.assign(next));
        x.withdraw(judged);
        x.assign(next);
        land.take(next, 1, 2);
        land.score(next, 60, 1, 2);
        Check.due("accepted", x.decide(next), 'a');
        int another = land.signed(0);
        Check.due("an accepted one does not count", x.assign(another), 9);
        land.take(another, 1, 2);
        land.score(another, 60, 1, 2);
        x.setRules(0, 2, 100, 100, 's');
        Check.due("rejected", x.decide(another), 'x');
        Check.due("a rejected one does not count", x.assign(land.signed(0)), 9);
    }

    private static void rejecters() {
        Land land = new Land(9);
        Refereehall x = land.x;
        int paper = land.rejected(0, 1, 2);
        x.appeal(paper);
        Check.noElement("it has no editor", () -> x.editorOf(paper));
        Check.noElement("who rejected it", () -> x.assign(paper));
        Check.due("another paper of the author", x.assign(land.signed(0)), 9);
        x.addEditor(8, 0);
        Check.due("another editor", x.assign(paper), 8);
    }

    private static void firstPerson() {
        Land land = new Land(0);
        Refereehall x = land.x;
        Check.due("person 0", x.assign(land.signed(1)), 0);
        land.take(0, 2, 3);
        land.score(0, 60, 2, 3);
        x.setRules(0, 2, 100, 100, 's');
        x.decide(0);
        x.appeal(0);
        Check.noElement("person 0 rejected it", () -> x.assign(0));
        Land other = new Land(0, 9);
        Refereehall y = other.x;
        y.sendAway(0, 1);
        other.rejected(1, 2, 3);
        y.sendAway(0, 0);
        y.appeal(0);
        Check.due("person 0 did not reject it", y.assign(0), 0);
    }

    private static void setRules() {
        Land land = new Land(9);
        Refereehall x = land.x;
        Check.badArgument("field -1", () -> x.setRules(-1, 2, 50, 35, 's'));
        Check.badArgument("field 8", () -> x.setRules(8, 2, 50, 35, 's'));
        Check.badArgument("needs 1", () -> x.setRules(0, 1, 50, 35, 's'));
        Check.badArgument("needs 5", () -> x.setRules(0, 5, 50, 35, 's'));
        Check.badArgument("accepts -1", () -> x.setRules(0, 2, -1, -1, 's'));
        Check.badArgument("accepts 101", () -> x.setRules(0, 2, 101, 35, 's'));
        Check.badArgument("rejects -1", () -> x.setRules(0, 2, 50, -1, 's'));
        Check.badArgument("rejects more than accepts", () -> x.setRules(0, 2, 50, 51, 's'));
        Check.badArgument("no such way", () -> x.setRules(0, 2, 50, 35, 'x'));
        Check.due("single blind at first", x.setRules(0, 4, 100, 100, 'o'), 's');
        Check.due("then open", x.setRules(0, 2, 0, 0, 'd'), 'o');
        Check.due("then double blind", x.setRules(0, 3, 50, 50, 's'), 'd');
        Check.due("another field", x.setRules(7, 2, 50, 35, 's'), 's');
    }
}
