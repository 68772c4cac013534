/** Each sentence of the document that names an edge has checks of its own, under its promise and its words. */
public final class EdgesTest {
    public static void main(String[] args) {
        Edges edges = new Edges();
        new WholeEdges(edges).check();
        new TextEdges(edges).check();
        new BeamEdges(edges).check();
        new GroupEdges(edges).check();
        new WhatIfEdges(edges).check();
        new StateEdges(edges).check();
        edges.end();
    }
}
