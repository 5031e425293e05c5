/** The calls of the document, so that the class and the plain model can be asked alike. */
interface Face {
    int put(int place, int word);

    int take(int place);

    int change(int place, int word);

    int move(int from, int many, int to);

    int anchor(int place);

    int drop(int anchor);

    int find(int anchor);

    int findAll();

    int remember(int anchor);

    int set(int what, int value);

    int wordAt(int place);

    int anchorOf(int anchor, int what);

    int score(int anchor, int place);

    int anchors(int what);

    int blockOf(int index, int what);

    int wouldTake(int place, int what);

    int safest(int what);

    int clearest(int what);

    int count(int what);

    int undo();

    int type(int character);

    int clearText();

    int fault(int what);

    int play();
}
