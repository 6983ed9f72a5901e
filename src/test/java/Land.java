/** Brings papers as far as a test needs them. Ten people at first: person i is of house i and has the word 0. */
final class Land {
    final Refereehall x = Check.watch(new Refereehall());

    Land(int... editors) {
        for (int i = 0; i < 10; i++) {
            x.addPerson(i, 1);
        }
        for (int editor : editors) {
            x.addEditor(editor, 0);
        }
    }

    int signed(int author) {
        return signed(author, 0, 1);
    }

    int signed(int author, int field, int words) {
        int paper = x.begin(author, field, words);
        x.sign(paper, author);
        return paper;
    }

    /** A signed paper of two versions: who was an author of the first one is none of the second. */
    int withOneGone(int author, int gone) {
        int paper = x.begin(author, 0, 1);
        x.addAuthor(paper, gone);
        x.sign(paper, author);
        x.sign(paper, gone);
        x.revise(paper, 1);
        x.dropAuthor(paper, gone);
        x.sign(paper, author);
        x.sign(paper, gone);
        return paper;
    }

    int assigned(int author) {
        int paper = signed(author);
        x.assign(paper);
        return paper;
    }

    /** A paper with an editor, of whose referees these took their invitations. */
    int taken(int author, int... referees) {
        int paper = assigned(author);
        take(paper, referees);
        return paper;
    }

    void take(int paper, int... referees) {
        x.invite(paper, 5);
        x.invite(paper, 5);
        for (int referee : referees) {
            x.answer(paper, referee, true);
        }
    }

    /** Reports without points that may not go along. */
    void score(int paper, int score, int... referees) {
        for (int referee : referees) {
            x.report(paper, referee, score, 0, false);
        }
    }

    /** Two reports whose evened mean is 50, as long as these referees always give this score. */
    int accepted(int author, int first, int second) {
        int paper = taken(author, first, second);
        score(paper, 60, first, second);
        x.decide(paper);
        return paper;
    }

    int published(int author, int first, int second) {
        int paper = accepted(author, first, second);
        x.publish(paper);
        return paper;
    }

    /** A paper with a mean of 50, as the rules make 'x' of any mean for that while. */
    int rejected(int author, int first, int second) {
        int paper = taken(author, first, second);
        score(paper, 60, first, second);
        x.setRules(0, 2, 100, 100, 's');
        x.decide(paper);
        x.setRules(0, 2, 50, 35, 's');
        return paper;
    }

    String file(int paper) {
        StringBuilder text = new StringBuilder();
        for (int i = 0; i < x.letters(paper); i++) {
            text.append(x.letter(paper, i));
        }
        return text.toString();
    }
}
