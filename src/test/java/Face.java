/** The calls of the document's face, so that one run of calls can be made on the class and on the model. */
interface Face {
    int begin(int kind, int seed);

    int keys();

    int turnKey(int g);

    int set(int p, int i, int v);

    int get(int p, int i);

    int batch(int p, boolean back);

    int seal(int c, int p);

    int open(int p, int c);

    int join(int to, int op, int a, int b);

    int plain(int to, int op, int a, int p);

    int shrink(int to, int a);

    int turn(int to, int a, int g);

    int part(int c, int k, int i);

    int about(int c, int what);

    int drop(int c);

    int count(int what);
}
