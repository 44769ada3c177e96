/** Plays for the promises that their titles name; see Due for what the lines mean. */
public final class ValueTest {
    public static void main(String[] arguments) {
        Due.play("Part 3: values and operators", """
            text `a(){print 7/2;print -7/2;print 7/-2;print -7%3;print 7%-3;print 2+3*4-1;print (2+3)*4;print -2*-3;print 5-3-1;print 17/4%3;}` = 1
            begin(0, 0, 0, 0) = 1
            run(99) = 10
            printed(*) = 3 -3 -3 -1 1 13 20 6 1 1
            """);
        Due.play("Part 3: comparisons, truth, both sides always", """
            text `a(){x=new[1];y=new[1];print 1<2;print 2<1;print 2>1;print 1=1;print 1#1;print x=x;print x=y;print x#y;print nil=nil;print nil=0;print x=nil;print !x;print !nil;print !0;print !5;print x&1;print nil&1;print nil|x;print 0|0;print 0&b(1);print 1|b(2);}b(p){print p+100;return 0;}` = 2
            begin(0, 0, 0, 0) = 1
            run(99) = 27
            state(4) = 23
            printed(*) = 1 0 1 1 0 1 0 1 1 0 0 0 1 1 0 1 0 1 0 101 0 102 1
            """);
        Due.play("Part 3: precedence", """
            text `a(){print 1|0&0;print 1+1=2;print 1<2&2<3;print 1=2|2=2;print !1=0;print -1+2;print len new[3]+1;print 2*3%4;}` = 1
            begin(0, 0, 0, 0) = 1
            run(99) = 8
            printed(*) = 1 1 1 1 1 1 4 2
            """);
        Due.play("Part 3: W[ex] and W[ex] = ex work out W first; new and len", """
            text `var v;a(){v=new[2];v[1]=5;print v[1]+v[f()];v=new[2];v[1]=6;v[f()]=v[1]+10;print v[0];print v[1];print len v;}f(){v=new[3];v[1]=9;v[0]=1;return 1;}` = 2
            begin(0, 0, 0, 0) = 1
            run(99) = 17
            printed(*) = 10 1 9 3
            state(4) = 4
            thread(0, 0) = 3
            """);
        Due.play("Part 3: a member's NAMES are its own and 0 at first, the end of a body gives 0", """
            text `var v;a(){print v;print x;x=5;print b(x);print x;print v;}b(p){print y;p=p+1;x=7;y=8;v=p;}` = 2
            begin(0, 0, 0, 0) = 1
            run(99) = 11
            printed(*) = 0 0 0 0 5 6 0
            """);
        Due.play("Promise 29: each failure of the house, its number as value", """
            text `var v;a(n){try{x=f(n);}catch e{print e;}}f(n){if(n=1){x=1/0;}if(n=2){x=new[2];x[2]=1;}if(n=3){v=nil;x=v[1];}if(n=4){x=nil+1;}if(n=5){x=new[201];}if(n=6){while(1){x=new[200];}}if(n=7){f(n);}if(n=8){lock 8{}}if(n=9){x=999999999*3;}throw 77;}` = 2
            thrown(0, 0) = -1
            argument(0, 0) = 0
            begin(0, 0, 0, 0) = 1
            run(20000) = 13
            printed(0) = 77
            thrown(0, *) = 1 1 1 0
            argument(0, 1) = 0
            begin(0, 0, 0, 0) = 1
            run(20000) = 5
            printed(0) = 1
            thrown(1, *) = 1 1 1 0 -1
            argument(0, 2) = 1
            begin(0, 0, 0, 0) = 1
            run(20000) = 7
            printed(0) = 2
            thrown(2, *) = 1 1 1 0
            argument(0, 3) = 2
            begin(0, 0, 0, 0) = 1
            run(20000) = 8
            printed(0) = 3
            thrown(3, *) = 1 1 1 0
            argument(0, 4) = 3
            begin(0, 0, 0, 0) = 1
            run(20000) = 8
            printed(0) = 4
            thrown(4, *) = 1 1 1 0
            argument(0, 5) = 4
            begin(0, 0, 0, 0) = 1
            run(20000) = 9
            printed(0) = 5
            thrown(5, *) = 1 1 1 0
            argument(0, 6) = 5
            begin(0, 0, 0, 0) = 1
            run(20000) = 71
            printed(0) = 6
            thrown(6, *) = 1 1 1 0
            state(7) = 30
            argument(0, 7) = 6
            begin(0, 0, 0, 0) = 1
            run(20000) = 315
            printed(0) = 7
            thrown(7, *) = 1 1 39 0
            argument(0, 8) = 7
            begin(0, 0, 0, 0) = 1
            run(20000) = 12
            printed(0) = 8
            thrown(8, *) = 1 1 1 0
            argument(0, 9) = 8
            begin(0, 0, 0, 0) = 1
            run(20000) = 13
            printed(0) = 9
            thrown(9, *) = 1 1 1 0
            thrown(10, 0) = -1
            thrown(-1, 0) = -1
            thrown(0, -1) = -1
            """);
        Due.play("Part 3: which failure of several", """
            text `var a;var v;m(n){a=new[2];if(n=0){x=nil/0;}if(n=1){x=v[a];}if(n=2){v=nil;x=v[nil];}if(n=3){x=a[nil];}if(n=4){x=a[-1];}if(n=5){x=new[nil];}if(n=6){x=new[-1];}if(n=7){lock a{}}if(n=8){lock -1{}}if(n=9){join nil;}if(n=10){join 0;}if(n=11){join 1;}if(n=12){x=len nil;}if(n=13){x=len 3;}if(n=14){print a;}if(n=15){x=-a;}if(n=16){x=1<nil;}if(n=17){for i=a to 1{}}if(n=18){for i=1 to nil{}}if(n=19){x=5%0;}if(n=20){v=nil;v[nil]=1/0;}if(n=21){v=3;v[1]=1;}if(n=22){x=0-999999999-999999999-999999999;}if(n=23){x=a[2];}}` = 1
            kinds(24) = 4 4 3 4 2 4 5 4 8 4 8 8 3 4 4 4 4 4 4 1 1 4 9 2
            """);
        Due.play("Part 3: a number out of bounds: 2147483647 is the last one, -2147483648 none", """
            text `a(){x=2147483*1000+647;print x;try{x=x+1;}catch e{print e;}y=-x;print y;try{y=y-1;}catch e{print e;}print y/-1;try{print x*x;}catch e{print e;}}` = 1
            begin(0, 0, 0, 0) = 1
            run(99) = 14
            printed(*) = 2147483647 9 -2147483647 9 2147483647 9 0
            """);
        Due.play("Part 3: the 41st activation, the 9th thread, the 301st array, the 6,001st element", """
            text `var v;a(){try{b();}catch e{print v;print e;}}b(){v=v+1;b();}c(){try{while(1){v=start d();}}catch e{print e;print v;}}d(){}e(){try{while(1){x=new[0];v=v+1;}}catch e{print e;print v;}}f(){x=new[200];try{while(1){x=new[100];v=v+1;}}catch e{print e;print v;}x=new[0];}` = 6
            begin(0, 0, 0, 0) = 1
            run(20000) = 82
            printed(*) = 39 7
            thrown(7, *) = 1 1 39 0
            begin(2, 0, 0, 0) = 1
            run(20000) = 19
            printed(*) = 7 7
            state(3) = 8
            begin(4, 0, 0, 0) = 1
            run(20000) = 905
            printed(*) = 6 300
            begin(5, 0, 0, 0) = 1
            run(20000) = 181
            printed(*) = 6 58
            state(7) = 60
            """);
        Due.play("Part 3: the 30,001st activation", """
            text `a(){for i=1 to 300{try{x=f();}catch e{print i;print e;return 0;}}}f(){return e()$119[+e()$];}e(){}` = 3
            begin(0, 0, 0, 0) = 1
            run(20000) = 749
            printed(*) = 248 7
            tree(4, 2) = 29751
            thrown(7, *) = 1 1 1 0
            """);
        Due.play("Promise 29: a failure on its way through activations, to a CATCH and to a thread's end", """
            text `a(){x=start b();try{c(3);}catch e{print len e;}c(2);}b(){c(1);}c(n){if(n){c(n-1);}throw new[7];}` = 3
            begin(0, 0, 0, 0) = 1
            run(20000) = 24
            printed(0) = 7
            thrown(0, *) = 3 1 11 2
            thread(0, 0) = 4
            thread(0, 7) = 0
            thread(1, 0) = 4
            thread(1, 7) = 0
            state(0) = 2
            """);
        Due.play("Promise 29: a failure in a CATCH goes further out, a RETURN's and a caught one's W", """
            text `a(){try{try{throw 1;}catch e{print e;throw e+1;}}catch f{print f;}try{return 1/0;}catch e{print e;}try{x=b()+1/0;}catch g{print g;}}b(){try{throw nil;}catch e{if(e=nil){return 7;}}}` = 2
            begin(0, 0, 0, 0) = 1
            run(99) = 16
            printed(*) = 1 2 1 1
            thrown(0, *) = 3 3 0 0
            thrown(1, *) = 2 2 0 0
            """);
        Due.play("Part 3: what a member gives that ends without a return, at once, behind a call, a failure or a wait", """
            text `a(){print 5-e();print 5-b();print 5-d();print 5-j();print 5-f();}e(){}b(){x=c();}c(){return 4;}d(){try{throw 3;}catch e{}}j(){join start c();}f(){for i=1 to 2{}}` = 7
            begin(0, 0, 0, 0) = 1
            run(99) = 16
            printed(*) = 5 5 5 5 5
            """);
        Due.play("Part 3: a start is an activation, too", """
            text `a(){for i=1 to 300{try{x=f();}catch e{print i;try{x=start e();}catch g{print g;}try{e();}catch g{print g;}return 0;}}}f(){return e()$119[+e()$];}e(){}` = 3
            begin(0, 0, 0, 0) = 1
            run(20000) = 754
            printed(*) = 248 7 7
            thrown(7, *) = 3 3 1 0
            state(3) = 1
            """);
        Due.end("ValueTest");
    }
}
