/** Promises 50 to 52: the indexes of people and fields, and circles. */
public final class IndexTest {
    public static void main(String[] args) {
        wrongCalls();
        index();
        indexWithCommonAuthors();
        indexByTheFirst();
        indexOfPublicVersion();
        fieldIndex();
        circle();
        circleOfOneStep();
        circleOfThree();
        circleOfJointPapers();
        Check.end();
    }

    private static void wrongCalls() {
        Refereehall x = Check.watch(new Refereehall());
        Check.outOfBounds("index of nobody", () -> x.index(0));
        Check.outOfBounds("index of -1", () -> x.index(-1));
        Check.outOfBounds("circle of nobody", () -> x.circle(0));
        Check.outOfBounds("circle of -1", () -> x.circle(-1));
        Check.badArgument("field -1", () -> x.fieldIndex(-1, 1));
        Check.badArgument("field 8", () -> x.fieldIndex(8, 1));
        Check.badArgument("0 days", () -> x.fieldIndex(0, 0));
        Check.badArgument("10000 days", () -> x.fieldIndex(0, 10000));
        Check.arithmetic("no paper", () -> x.fieldIndex(0, 9999));
        x.addPerson(0, 0);
        Check.due("index at first", x.index(0), 0);
        Check.due("circle at first", x.circle(0), 0);
    }

    /** An accepted paper, whose authors may be any of 0 to 6, with the referees 7 and 8; equal ones are none yet. */
    private static int ready(Land land, int... authors) {
        Refereehall x = land.x;
        int paper = x.begin(authors[0], 0, 1);
        for (int i = 1; i < authors.length; i++) {
            x.addAuthor(paper, authors[i]);
        }
        for (int author : authors) {
            x.sign(paper, author);
        }
        x.assign(paper);
        land.take(paper, 7, 8);
        land.score(paper, 60, 7, 8);
        x.decide(paper);
        return paper;
    }

    private static void publishAll(Refereehall x, int papers) {
        for (int i = 0; i < papers; i++) {
            x.publish(i);
        }
    }

    private static void index() {
        Land land = new Land(9);
        Refereehall x = land.x;
        for (int i = 0; i < 3; i++) {
            ready(land, 0);
        }
        for (int i = 0; i < 4; i++) {
            ready(land, 1 + i);
        }
        for (int i = 3; i < 6; i++) {
            x.cite(i, 0);
            if (i > 3) {
                x.cite(i, 1);
            }
        }
        x.cite(3, 2);
        x.cite(6, 2);
        publishAll(x, 6);
        Check.due("3, 2 and 1 citations", x.index(0), 2);
        Check.due("without any", x.index(1), 0);
        Check.due("no author", x.index(6), 0);
        x.publish(6);
        Check.due("3, 2 and 2 citations", x.index(0), 2);
        x.retract(4);
        Check.due("2, 1 and 2 citations", x.index(0), 2);
        x.retract(0);
        Check.due("1 and 2 citations", x.index(0), 1);
    }

    private static void indexWithCommonAuthors() {
        Land land = new Land(9);
        Refereehall x = land.x;
        ready(land, 0, 1);
        ready(land, 1, 2);
        ready(land, 2);
        ready(land, 0);
        x.cite(1, 0);
        x.cite(3, 0);
        ready(land, 3);
        x.cite(4, 0);
        publishAll(x, 4);
        Check.due("cited by its own authors alone", x.index(0), 0);
        x.publish(4);
        Check.due("cited by another one", x.index(0), 1);
        Check.due("of the other author", x.index(1), 1);
    }

    private static void indexByTheFirst() {
        Land land = new Land(9);
        Refereehall x = land.x;
        ready(land, 0);
        ready(land, 1);
        x.cite(0, 1);
        publishAll(x, 2);
        Check.due("cited by paper 0", x.index(1), 1);
        Check.due("of the one that cites", x.index(0), 0);
    }

    private static void indexOfPublicVersion() {
        Land land = new Land(9);
        Refereehall x = land.x;
        x.begin(0, 0, 1);
        x.addAuthor(0, 1);
        x.sign(0, 0);
        x.sign(0, 1);
        x.assign(0);
        x.revise(0, 1);
        x.dropAuthor(0, 1);
        x.sign(0, 0);
        x.sign(0, 1);
        land.take(0, 7, 8);
        land.score(0, 60, 7, 8);
        x.decide(0);
        ready(land, 1);
        x.cite(1, 0);
        publishAll(x, 2);
        Check.due("no author of the public version", x.index(1), 0);
        Check.due("an author of an elder version is none in common", x.index(0), 1);
    }

    private static void fieldIndex() {
        Land land = new Land(9);
        Refereehall x = land.x;
        x.addEditor(9, 1);
        for (int i = 0; i < 3; i++) {
            ready(land, 0);
        }
        for (int i = 0; i < 2; i++) {
            int paper = land.signed(1, 1, 1);
            x.assign(paper);
            land.take(paper, 7, 8);
            land.score(paper, 60, 7, 8);
            x.decide(paper);
        }
        x.cite(3, 0);
        x.cite(3, 1);
        x.cite(3, 2);
        x.cite(4, 0);
        x.cite(1, 0);
        x.cite(0, 3);
        Check.arithmetic("none is published", () -> x.fieldIndex(0, 1));
        x.publish(0);
        Check.due("nobody cites it", x.fieldIndex(0, 1), 0f);
        x.publish(1);
        x.publish(2);
        x.goOn(5);
        x.publish(3);
        Check.due("3 of 3", x.fieldIndex(0, 5), 1f);
        Check.due("one of the same authors too", x.fieldIndex(0, 6), 4f / 3f);
        Check.due("0 of 1", x.fieldIndex(1, 5), 0f);
        Check.due("5 days ago", x.fieldIndex(1, 6), 1f);
        x.goOn(3);
        Check.due("none in the last 3", x.fieldIndex(0, 3), 0f);
        x.publish(4);
        Check.due("today", x.fieldIndex(0, 1), 1f / 3f);
        Check.due("of the last 4", x.fieldIndex(0, 4), 4f / 3f);
        x.retract(3);
        Check.due("a retracted one does not cite", x.fieldIndex(0, 9999), 2f / 3f);
        Check.due("nor is it one of the field", x.fieldIndex(1, 9999), 0f);
        x.retract(0);
        Check.due("a retracted one is not cited", x.fieldIndex(0, 9999), 0f);
    }

    private static void circle() {
        Land land = new Land(9);
        Refereehall x = land.x;
        for (int i = 0; i < 6; i++) {
            ready(land, i % 3);
        }
        x.cite(0, 1);
        x.cite(3, 4);
        x.cite(1, 0);
        publishAll(x, 6);
        Check.due("one step alone", x.circle(0), 0);
        Land other = new Land(9);
        Refereehall y = other.x;
        for (int i = 0; i < 6; i++) {
            ready(other, i % 3);
        }
        y.cite(0, 1);
        y.cite(3, 4);
        y.cite(1, 0);
        y.cite(1, 3);
        y.cite(2, 0);
        y.cite(2, 3);
        publishAll(y, 5);
        Check.due("two", y.circle(0), 2);
        Check.due("of the other one", y.circle(1), 2);
        Check.due("a step into it alone", y.circle(2), 0);
        y.publish(5);
        y.retract(0);
        Check.due("a retracted one does not count", y.circle(1), 0);
    }

    /** 0 cites two of 1, and 1 cites one of 0, which is not paper 0. */
    private static void circleOfOneStep() {
        Land land = new Land(9);
        Refereehall x = land.x;
        for (int i = 0; i < 4; i++) {
            ready(land, i % 2);
        }
        x.cite(0, 1);
        x.cite(0, 3);
        x.cite(1, 2);
        publishAll(x, 4);
        Check.due("one is not two", x.circle(0), 0);
        Check.due("nor for the other one", x.circle(1), 0);
    }

    private static void circleOfThree() {
        Land land = new Land(9);
        Refereehall x = land.x;
        for (int i = 0; i < 10; i++) {
            ready(land, i % 5);
        }
        for (int i = 0; i < 3; i++) {
            x.cite(i, (i + 1) % 3);
            x.cite(i, (i + 1) % 3 + 5);
        }
        x.cite(3, 4);
        x.cite(3, 9);
        x.cite(8, 4);
        x.cite(2, 3);
        x.cite(2, 8);
        publishAll(x, 10);
        Check.due("round by three", x.circle(1), 3);
        Check.due("the same circle", x.circle(0), 3);
        Check.due("reached, without a way back", x.circle(3), 0);
        Check.due("at the end", x.circle(4), 0);
    }

    /** Two papers of 0 cite the same one of 1 twice; joint papers do not count on either side. */
    private static void circleOfJointPapers() {
        Land land = new Land(9);
        Refereehall x = land.x;
        ready(land, 0);
        ready(land, 0);
        ready(land, 1);
        ready(land, 1);
        ready(land, 0, 1);
        x.cite(2, 0);
        x.cite(2, 1);
        x.cite(0, 2);
        x.cite(1, 2);
        x.cite(0, 4);
        x.cite(4, 3);
        ready(land, 0);
        publishAll(x, 5);
        Check.due("one paper cited twice is one", x.circle(0), 0);
        x.cite(5, 3);
        x.publish(5);
        Check.due("another one cited", x.circle(0), 2);
    }
}
